theorem pm_mo_ad (y : Nat → ClassId) (q : Nat → Nat) (S T : Nat → Nat → Nat) (gp gs gp2 gs2 : Nat → Int32) (kn ln kn2 ln2 : Nat) (sv pd sv2 pd2 : Nat → Nat) : (pm_mo y q S gp gs kn ln sv pd).map Prod.fst = (pm_mo y q T gp2 gs2 kn2 ln2 sv2 pd2).map Prod.fst := rfl
set_option maxHeartbeats 4000000 in
set_option maxRecDepth 100000 in
theorem k_X4_markIn (l : Launch) (D : va_G) (y : Nat → ClassId) (q : Nat → Nat) (S : Nat → Nat → Nat) (gp gs : Nat → Int32) (kn ln : Nat) (sv pd : Nat → Nat) (p0 : Nat) (hPI : pm_PI pd ln) (hp0 : p0 < ln) : Met l yX4_markIn wsX4_markIn ({ frames := 1, cells := 0, slots := 0, locals := 21 } : Room) (pm_ro D (pm_ty y) [.ref (q 0), .int (nI p0)] (pm_mo y q S gp gs kn ln sv pd)) (vp_Si (fun r : Int32 => r = nI (pm_mi (pd p0)))) 0 0 (fun _ => False) := by
  refine Met.ofW (cc := cX4_markIn) (maxL := 2) (ret := (some .int)) (by decide) rfl ?_
  intro p e s m args below meth c s₁ B hml hpre
  obtain ⟨rfl, hP, hK⟩ := hpre
  have hx := B.exec
  have hb := B.bytes
  have hr := B.returns
  have hts := atoms_spec (ws := wsX4_markIn) B.pre
  have hown : s.vm.findClass RX4 = some m.cls := findClass_of_methodNamed B.named
  have hlocks := B.notSynchronized
  have hin4 : ∀ w ∈ u_ws RX4 TX4 7, w ∈ wsX4_markIn := fun w h => List.mem_cons_of_mem _ (List.mem_append_right _ h)
  have hP : va_P D vwCl (pm_mo y q S gp gs kn ln sv pd) s.heap := hP
  have hl := lv_entry ([.ref (q 0), .int (nI p0)]) (n := 2) (Nat.le_of_ble_eq_true rfl)
  rw [lg_entry_eq]
  generalize (lg_sl ([.ref (q 0), .int (nI p0)]) ++ List.replicate (2 - (lg_sl ([.ref (q 0), .int (nI p0)])).length) Slot.unset).toArray = ls at hl ⊢
  have hl : lv_has ls 2 [(0, .ref (q 0)), (1, .int (nI p0))] := hl
  have hln := hPI.1
  refine lv_aload_n hx hb dX4_markIn_0 rfl (lv_at hl 0 rfl) ?_
  refine lv_iload_n hx hb dX4_markIn_1 rfl (lv_at hl 1 rfl) ?_
  refine vp_callSi (W.runV (As := [.int (nI p0)]) (rest := []) ⟨hx, hb, hml, hown, hts⟩ (k_X4_sign l D y q S gp gs kn ln sv pd p0 hPI (by omega)) (cwV 1 hts gX4_markIn_X4_sign rfl rfl rfl hd_X4_sign ⟨Nat.le_of_ble_eq_true rfl, Nat.le_of_ble_eq_true rfl⟩) ⟨pm_ro_blind, va_recv hK hP (ci := 4) (q0 := 0) rfl rfl, pm_ro_pre hP hK⟩ rfl rfl hl.1 rfl (lv_room (Nat.le_of_ble_eq_true rfl)) dX4_markIn_2 ⟨Nat.le_of_ble_eq_true rfl, Nat.le_of_ble_eq_true rfl⟩) (fun r1 h2 => ?_)
  rcases h2 with ⟨hs3, rfl⟩ | ⟨hs3, rfl⟩
  · have := hPI.2 p0 (by omega)
    refine lv_bipush (v := nI 116) hx hb dX4_markIn_5 (by decide) ?_
    refine kx_icmp_ne (tgt := 14) hx hb (by omega) (by decide) dX4_markIn_7 (by decide) (fun c4 => ?_) (fun c4 => ?_)
    · skip
      refine lv_aload_n hx hb dX4_markIn_14 rfl (lv_at hl 0 rfl) ?_
      refine lv_iload_n hx hb dX4_markIn_15 rfl (lv_at hl 1 rfl) ?_
      refine vp_callSi (W.runV (As := [.int (nI p0)]) (rest := []) ⟨hx, hb, hml, hown, hts⟩ (k_X4_sign l D y q S gp gs kn ln sv pd p0 hPI (by omega)) (cwV 1 hts gX4_markIn_X4_sign rfl rfl rfl hd_X4_sign ⟨Nat.le_of_ble_eq_true rfl, Nat.le_of_ble_eq_true rfl⟩) ⟨pm_ro_blind, va_recv hK hP (ci := 4) (q0 := 0) rfl rfl, pm_ro_pre hP hK⟩ rfl rfl hl.1 rfl (lv_room (Nat.le_of_ble_eq_true rfl)) dX4_markIn_16 ⟨Nat.le_of_ble_eq_true rfl, Nat.le_of_ble_eq_true rfl⟩) (fun r5 h6 => ?_)
      rcases h6 with ⟨hs7, rfl⟩ | ⟨hs7, rfl⟩
      · have := hPI.2 p0 (by omega)
        refine lv_bipush (v := nI 120) hx hb dX4_markIn_19 (by decide) ?_
        refine kx_icmp_ne (tgt := 28) hx hb (by omega) (by decide) dX4_markIn_21 (by decide) (fun c8 => ?_) (fun c8 => ?_)
        · skip
          refine lv_iconst (v := nI 0) hx hb dX4_markIn_28 (by decide) ?_
          exact W.iret hx hb hr (fun t ht _ => ⟨_, rfl, (congrArg nI (by unfold pm_mi; (repeat' split) <;> omega)), ht⟩) (fun _ h => absurd h List.not_mem_nil) dX4_markIn_29
        · skip
          refine lv_iconst (v := nI 2) hx hb dX4_markIn_24 (by decide) ?_
          refine lv_goto (tgt := 29) hx hb dX4_markIn_25 (by decide) ?_
          exact W.iret hx hb hr (fun t ht _ => ⟨_, rfl, (congrArg nI (by unfold pm_mi; (repeat' split) <;> omega)), ht⟩) (fun _ h => absurd h List.not_mem_nil) dX4_markIn_29
      · exfalso; omega
    · skip
      refine lv_iconst (v := nI 1) hx hb dX4_markIn_10 (by decide) ?_
      refine lv_goto (tgt := 29) hx hb dX4_markIn_11 (by decide) ?_
      exact W.iret hx hb hr (fun t ht _ => ⟨_, rfl, (congrArg nI (by unfold pm_mi; (repeat' split) <;> omega)), ht⟩) (fun _ h => absurd h List.not_mem_nil) dX4_markIn_29
  · exfalso; omega

set_option maxHeartbeats 4000000 in
set_option maxRecDepth 100000 in
theorem k_X4_numberAt (l : Launch) (D : va_G) (y : Nat → ClassId) (q : Nat → Nat) (S : Nat → Nat → Nat) (gp gs : Nat → Int32) (kn ln : Nat) (sv pd : Nat → Nat) (p0 : Nat) (hPI : pm_PI pd ln) (hp0 : p0 ≤ 120) (hd0 : ∃ d, pm_dg pd ln p0 = some d) : Met l yX4_numberAt wsX4_numberAt ({ frames := 3, cells := 0, slots := 0, locals := 64 } : Room) (pm_ro D (pm_ty y) [.ref (q 0), .int (nI p0)] (pm_mo y q S gp gs kn ln sv pd)) (vp_Si (fun r : Int32 => r = nI (pm_na pd ln p0))) 0 0 (fun _ => False) := by
  refine Met.ofW (cc := cX4_numberAt) (maxL := 2) (ret := (some .int)) (by decide) rfl ?_
  intro p e s m args below meth c s₁ B hml hpre
  obtain ⟨rfl, hP, hK⟩ := hpre
  have hx := B.exec
  have hb := B.bytes
  have hr := B.returns
  have hts := atoms_spec (ws := wsX4_numberAt) B.pre
  have hown : s.vm.findClass RX4 = some m.cls := findClass_of_methodNamed B.named
  have hlocks := B.notSynchronized
  have hin4 : ∀ w ∈ u_ws RX4 TX4 7, w ∈ wsX4_numberAt := fun w h => List.mem_cons_of_mem _ (List.mem_append_right _ h)
  have hP : va_P D vwCl (pm_mo y q S gp gs kn ln sv pd) s.heap := hP
  have hl := lv_entry ([.ref (q 0), .int (nI p0)]) (n := 2) (Nat.le_of_ble_eq_true rfl)
  rw [lg_entry_eq]
  generalize (lg_sl ([.ref (q 0), .int (nI p0)]) ++ List.replicate (2 - (lg_sl ([.ref (q 0), .int (nI p0)])).length) Slot.unset).toArray = ls at hl ⊢
  have hl : lv_has ls 2 [(0, .ref (q 0)), (1, .int (nI p0))] := hl
  have hln := hPI.1
  obtain ⟨d0, ed0⟩ := hd0
  have hd0 : d0 < 10 := (pm_dg9 ed0).1
  refine lv_aload_n hx hb dX4_numberAt_0 rfl (lv_at hl 0 rfl) ?_
  refine lv_iload_n hx hb dX4_numberAt_1 rfl (lv_at hl 1 rfl) ?_
  refine vp_callSi (W.runV (As := [.int (nI p0)]) (rest := []) ⟨hx, hb, hml, hown, hts⟩ (k_X4_numberEnd l D y q S gp gs kn ln sv pd (.inl p0) hPI (by have e9 : ∀ z : Nat, pm_sz (.inl z) = z := fun _ => rfl; simp only [e9] at *; omega)) (cwV 1 hts gX4_numberAt_X4_numberEnd rfl rfl rfl hd_X4_numberEnd ⟨Nat.le_of_ble_eq_true rfl, Nat.le_of_ble_eq_true rfl⟩) ⟨pm_ro_blind, va_recv hK hP (ci := 4) (q0 := 0) rfl rfl, pm_ro_pre hP hK⟩ rfl rfl hl.1 rfl (lv_room (Nat.le_of_ble_eq_true rfl)) dX4_numberAt_2 ⟨Nat.le_of_ble_eq_true rfl, Nat.le_of_ble_eq_true rfl⟩) (fun r1 h2 => ?_)
  obtain rfl : r1 = pm_en (pm_bd (.inl p0) (pm_ne pd ln)) := h2
  have := pm_sz_ne (P := pd) (ln := ln) (.inl p0)
  have h3 : (d0 = 0 ∨ pm_dg pd ln (p0 + 1) = none) ∨ (0 < d0 ∧ ∃ d, pm_dg pd ln (p0 + 1) = some d) := by
    rcases Nat.eq_zero_or_pos d0 with hz | hz
    · exact Or.inl (Or.inl hz)
    · cases hq : pm_dg pd ln (p0 + 1)
      · exact Or.inl (Or.inr rfl)
      · exact Or.inr ⟨hz, _, rfl⟩
  rcases h3 with hz | ⟨hz, q1, eq1⟩
  · refine lv_topi (fun x9 e9 => ?_)
    obtain rfl : x9 = nI (p0 + 1) := e9.trans (show pm_en (pm_ne pd ln p0) = nI (p0 + 1) from by rw [pm_ne_1 ed0 hz]; rfl)
    refine lv_iload_n hx hb dX4_numberAt_5 rfl (lv_at hl 1 rfl) ?_
    refine lv_iconst (v := nI 1) hx hb dX4_numberAt_6 (by decide) ?_
    refine kx_iadd hx hb dX4_numberAt_7 ?_
    refine kx_icmp_ne (tgt := 19) hx hb (by omega) (by omega) dX4_numberAt_8 (by decide) (fun c3 => by exfalso; omega) (fun c3 => ?_)
    refine lv_aload_n hx hb dX4_numberAt_11 rfl (lv_at hl 0 rfl) ?_
    refine lv_iload_n hx hb dX4_numberAt_12 rfl (lv_at hl 1 rfl) ?_
    refine vp_callSi (W.runV (As := [.int (nI p0)]) (rest := []) ⟨hx, hb, hml, hown, hts⟩ (k_X4_digit l D y q S gp gs kn ln sv pd p0 hPI (by omega)) (cwV 1 hts gX4_numberAt_X4_digit rfl rfl rfl hd_X4_digit ⟨Nat.le_of_ble_eq_true rfl, Nat.le_of_ble_eq_true rfl⟩) ⟨pm_ro_blind, va_recv hK hP (ci := 4) (q0 := 0) rfl rfl, pm_ro_pre hP hK⟩ rfl rfl hl.1 rfl (lv_room (Nat.le_of_ble_eq_true rfl)) dX4_numberAt_13 ⟨Nat.le_of_ble_eq_true rfl, Nat.le_of_ble_eq_true rfl⟩) (fun r4 h5 => ?_)
    rcases h5 with ⟨d6, hd6, ed6, rfl⟩ | ⟨ed6, rfl⟩
    · have qd6 : d0 = d6 := Option.some.inj (ed0.symm.trans ed6)
      subst qd6
      refine lv_goto (tgt := 35) hx hb dX4_numberAt_16 (by decide) ?_
      exact W.iret hx hb hr (fun t ht _ => ⟨_, rfl, (congrArg nI (pm_na_1 ed0 hz).symm), ht⟩) (fun _ h => absurd h List.not_mem_nil) dX4_numberAt_35
    · exact absurd (ed6.symm.trans ed0) (by simp)
  · have hq1 := (pm_dg9 eq1).1
    refine lv_topi (fun x9 e9 => ?_)
    obtain rfl : x9 = nI (p0 + 2) := e9.trans (show pm_en (pm_ne pd ln p0) = nI (p0 + 2) from by rw [pm_ne_2 ed0 hz eq1]; rfl)
    refine lv_iload_n hx hb dX4_numberAt_5 rfl (lv_at hl 1 rfl) ?_
    refine lv_iconst (v := nI 1) hx hb dX4_numberAt_6 (by decide) ?_
    refine kx_iadd hx hb dX4_numberAt_7 ?_
    refine kx_icmp_ne (tgt := 19) hx hb (by omega) (by omega) dX4_numberAt_8 (by decide) (fun c7 => ?_) (fun c7 => by exfalso; omega)
    refine lv_bipush (v := nI 10) hx hb dX4_numberAt_19 (by decide) ?_
    refine lv_aload_n hx hb dX4_numberAt_21 rfl (lv_at hl 0 rfl) ?_
    refine lv_iload_n hx hb dX4_numberAt_22 rfl (lv_at hl 1 rfl) ?_
    refine vp_callSi (W.runV (As := [.int (nI p0)]) (rest := [.int (nI 10)]) ⟨hx, hb, hml, hown, hts⟩ (k_X4_digit l D y q S gp gs kn ln sv pd p0 hPI (by omega)) (cwV 1 hts gX4_numberAt_X4_digit rfl rfl rfl hd_X4_digit ⟨Nat.le_of_ble_eq_true rfl, Nat.le_of_ble_eq_true rfl⟩) ⟨pm_ro_blind, va_recv hK hP (ci := 4) (q0 := 0) rfl rfl, pm_ro_pre hP hK⟩ rfl rfl hl.1 rfl (lv_room (Nat.le_of_ble_eq_true rfl)) dX4_numberAt_23 ⟨Nat.le_of_ble_eq_true rfl, Nat.le_of_ble_eq_true rfl⟩) (fun r8 h9 => ?_)
    rcases h9 with ⟨d10, hd10, ed10, rfl⟩ | ⟨ed10, rfl⟩
    · have qd10 : d0 = d10 := Option.some.inj (ed0.symm.trans ed10)
      subst qd10
      refine kx_imul hx hb dX4_numberAt_26 ?_
      refine lv_aload_n hx hb dX4_numberAt_27 rfl (lv_at hl 0 rfl) ?_
      refine lv_iload_n hx hb dX4_numberAt_28 rfl (lv_at hl 1 rfl) ?_
      refine lv_iconst (v := nI 1) hx hb dX4_numberAt_29 (by decide) ?_
      refine kx_iadd hx hb dX4_numberAt_30 ?_
      refine vp_callSi (W.runV (As := [.int (nI (p0 + 1))]) (rest := [.int (nI (10 * d0))]) ⟨hx, hb, hml, hown, hts⟩ (k_X4_digit l D y q S gp gs kn ln sv pd (p0 + 1) hPI (by omega)) (cwV 1 hts gX4_numberAt_X4_digit rfl rfl rfl hd_X4_digit ⟨Nat.le_of_ble_eq_true rfl, Nat.le_of_ble_eq_true rfl⟩) ⟨pm_ro_blind, va_recv hK hP (ci := 4) (q0 := 0) rfl rfl, pm_ro_pre hP hK⟩ rfl rfl hl.1 rfl (lv_room (Nat.le_of_ble_eq_true rfl)) dX4_numberAt_31 ⟨Nat.le_of_ble_eq_true rfl, Nat.le_of_ble_eq_true rfl⟩) (fun r11 h12 => ?_)
      rcases h12 with ⟨d13, hd13, ed13, rfl⟩ | ⟨ed13, rfl⟩
      · have qd13 : q1 = d13 := Option.some.inj (eq1.symm.trans ed13)
        subst qd13
        refine kx_iadd hx hb dX4_numberAt_34 ?_
        exact W.iret hx hb hr (fun t ht _ => ⟨_, rfl, (congrArg nI (pm_na_2 ed0 hz eq1).symm), ht⟩) (fun _ h => absurd h List.not_mem_nil) dX4_numberAt_35
      · exact absurd (ed13.symm.trans eq1) (by simp)
    · exact absurd (ed10.symm.trans ed0) (by simp)

set_option maxHeartbeats 4000000 in
set_option maxRecDepth 100000 in
theorem k_X4_whyNot (l : Launch) (D : va_G) (y : Nat → ClassId) (q : Nat → Nat) (S : Nat → Nat → Nat) (gp gs : Nat → Int32) (kn ln : Nat) (sv pd : Nat → Nat) (p0 e0 : Nat) (hI : pm_Inv S) (hPI : pm_PI pd ln) (hp0 : p0 ≤ 80) (hoe : pm_oe pd ln p0 = .inl e0) : Met l yX4_whyNot wsX4_whyNot ({ frames := 4, cells := 0, slots := 0, locals := 91 } : Room) (pm_ro D (pm_ty y) [.ref (q 0), .int (nI p0)] (pm_mo y q S gp gs kn ln sv pd)) (vp_Si (fun r : Int32 => (0 ≤ (pm_ord S pd ln p0).1 ∧ r = nI 0) ∨ ((pm_ord S pd ln p0).1 < 0 ∧ r = (pm_ord S pd ln p0).1))) 0 0 (fun _ => False) := by
  refine Met.ofW (cc := cX4_whyNot) (maxL := 3) (ret := (some .int)) (by decide) rfl ?_
  intro p e s m args below meth c s₁ B hml hpre
  obtain ⟨rfl, hP, hK⟩ := hpre
  have hx := B.exec
  have hb := B.bytes
  have hr := B.returns
  have hts := atoms_spec (ws := wsX4_whyNot) B.pre
  have hown : s.vm.findClass RX4 = some m.cls := findClass_of_methodNamed B.named
  have hlocks := B.notSynchronized
  have hin4 : ∀ w ∈ u_ws RX4 TX4 7, w ∈ wsX4_whyNot := fun w h => List.mem_cons_of_mem _ (List.mem_append_right _ h)
  have hP : va_P D vwCl (pm_mo y q S gp gs kn ln sv pd) s.heap := hP
  have hl := lv_entry ([.ref (q 0), .int (nI p0)]) (n := 3) (Nat.le_of_ble_eq_true rfl)
  rw [lg_entry_eq]
  generalize (lg_sl ([.ref (q 0), .int (nI p0)]) ++ List.replicate (3 - (lg_sl ([.ref (q 0), .int (nI p0)])).length) Slot.unset).toArray = ls at hl ⊢
  have hl : lv_has ls 3 [(0, .ref (q 0)), (1, .int (nI p0))] := hl
  have hln := hPI.1
  obtain ⟨hlt, hkk⟩ := pm_k_s hoe
  rcases hkk with hw | hw | hw | hw | hw | hw | hw
  · obtain ⟨⟨k1, ek1⟩, hdot, ⟨k3, ek3⟩, hend⟩ := pm_k_t hoe (by omega)
    have hk1 := (pm_dg9 ek1).1
    have hk3 := (pm_dg9 ek3).1
    refine lv_aload_n hx hb dX4_whyNot_0 rfl (lv_at hl 0 rfl) ?_
    refine lv_iload_n hx hb dX4_whyNot_1 rfl (lv_at hl 1 rfl) ?_
    refine lv_iconst (v := nI 1) hx hb dX4_whyNot_2 (by decide) ?_
    refine kx_iadd hx hb dX4_whyNot_3 ?_
    refine vp_callSi (W.runV (As := [.int (nI (p0 + 1))]) (rest := []) ⟨hx, hb, hml, hown, hts⟩ (k_X4_digit l D y q S gp gs kn ln sv pd (p0 + 1) hPI (by omega)) (cwV 1 hts gX4_whyNot_X4_digit rfl rfl rfl hd_X4_digit ⟨Nat.le_of_ble_eq_true rfl, Nat.le_of_ble_eq_true rfl⟩) ⟨pm_ro_blind, va_recv hK hP (ci := 4) (q0 := 0) rfl rfl, pm_ro_pre hP hK⟩ rfl rfl hl.1 rfl (lv_room (Nat.le_of_ble_eq_true rfl)) dX4_whyNot_4 ⟨Nat.le_of_ble_eq_true rfl, Nat.le_of_ble_eq_true rfl⟩) (fun r1 h2 => ?_)
    rcases h2 with ⟨d3, hd3, ed3, rfl⟩ | ⟨ed3, rfl⟩
    · have qd3 : k1 = d3 := Option.some.inj (ek1.symm.trans ed3)
      subst qd3
      refine lv_istore_n (lv' := [(2, .int (nI k1)), (0, .ref (q 0)), (1, .int (nI p0))]) hx hb dX4_whyNot_7 rfl hl (by decide) rfl (fun ls hl => ?_)
      refine lv_aload_n hx hb dX4_whyNot_8 rfl (lv_at hl 1 rfl) ?_
      refine lv_iload_n hx hb dX4_whyNot_9 rfl (lv_at hl 2 rfl) ?_
      refine vp_callSi (W.runV (As := [.int (nI p0)]) (rest := []) ⟨hx, hb, hml, hown, hts⟩ (k_X4_sign l D y q S gp gs kn ln sv pd p0 hPI (by omega)) (cwV 1 hts gX4_whyNot_X4_sign rfl rfl rfl hd_X4_sign ⟨Nat.le_of_ble_eq_true rfl, Nat.le_of_ble_eq_true rfl⟩) ⟨pm_ro_blind, va_recv hK hP (ci := 4) (q0 := 0) rfl rfl, pm_ro_pre hP hK⟩ rfl rfl hl.1 rfl (lv_room (Nat.le_of_ble_eq_true rfl)) dX4_whyNot_10 ⟨Nat.le_of_ble_eq_true rfl, Nat.le_of_ble_eq_true rfl⟩) (fun r4 h5 => ?_)
      rcases h5 with ⟨hs6, rfl⟩ | ⟨hs6, rfl⟩
      · have := hPI.2 p0 (by omega)
        refine lv_topi (fun x7 e8 => ?_)
        obtain rfl : x7 = nI 116 := e8.trans (congrArg nI hw)
        refine lv_lookup (off := 131) (tgt := 144) hx hb dX4_whyNot_13 (by decide) (by decide) (by decide) ?_
        refine lv_aload_n hx hb dX4_whyNot_144 rfl (lv_at hl 1 rfl) ?_
        refine lv_iload_n hx hb dX4_whyNot_145 rfl (lv_at hl 0 rfl) ?_
        refine lv_aload_n hx hb dX4_whyNot_146 rfl (lv_at hl 1 rfl) ?_
        refine lv_iload_n hx hb dX4_whyNot_147 rfl (lv_at hl 2 rfl) ?_
        refine lv_iconst (v := nI 3) hx hb dX4_whyNot_148 (by decide) ?_
        refine kx_iadd hx hb dX4_whyNot_149 ?_
        refine vp_callSi (W.runV (As := [.int (nI (p0 + 3))]) (rest := [.int (nI k1), .ref (q 0)]) ⟨hx, hb, hml, hown, hts⟩ (k_X4_numberAt l D y q S gp gs kn ln sv pd (p0 + 3) hPI (by omega) ⟨_, ek3⟩) (cwV 1 hts gX4_whyNot_X4_numberAt rfl rfl rfl hd_X4_numberAt ⟨Nat.le_of_ble_eq_true rfl, Nat.le_of_ble_eq_true rfl⟩) ⟨pm_ro_blind, va_recv hK hP (ci := 4) (q0 := 0) rfl rfl, pm_ro_pre hP hK⟩ rfl rfl hl.1 rfl (lv_room (Nat.le_of_ble_eq_true rfl)) dX4_whyNot_150 ⟨Nat.le_of_ble_eq_true rfl, Nat.le_of_ble_eq_true rfl⟩) (fun r9 h10 => ?_)
        obtain rfl : r9 = nI (pm_na pd ln (p0 + 3)) := h10
        have := pm_na_le (P := pd) (ln := ln) (p := (p0 + 3))
        refine lv_aload_n hx hb dX4_whyNot_153 rfl (lv_at hl 1 rfl) ?_
        refine lv_iload_n hx hb dX4_whyNot_154 rfl (lv_at hl 2 rfl) ?_
        refine vp_callSi (W.runV (As := [.int (nI p0)]) (rest := [.int (nI (pm_na pd ln (p0 + 3))), .int (nI k1), .ref (q 0)]) ⟨hx, hb, hml, hown, hts⟩ (k_X4_markIn l D y q S gp gs kn ln sv pd p0 hPI (by omega)) (cwV 1 hts gX4_whyNot_X4_markIn rfl rfl rfl hd_X4_markIn ⟨Nat.le_of_ble_eq_true rfl, Nat.le_of_ble_eq_true rfl⟩) ⟨pm_ro_blind, va_recv hK hP (ci := 4) (q0 := 0) rfl rfl, pm_ro_pre hP hK⟩ rfl rfl hl.1 rfl (lv_room (Nat.le_of_ble_eq_true rfl)) dX4_whyNot_155 ⟨Nat.le_of_ble_eq_true rfl, Nat.le_of_ble_eq_true rfl⟩) (fun r11 h12 => ?_)
        obtain rfl : r11 = nI (pm_mi (pd p0)) := h12
        refine vp_callSi (W.runV (As := [.int (nI k1), .int (nI (pm_na pd ln (p0 + 3))), .int (nI (pm_mi (pd p0)))]) (rest := []) ⟨hx, hb, hml, hown, hts⟩ (k_X4_whyNotMark l D y q S gp gs kn ln sv pd (nI k1) (nI (pm_na pd ln (p0 + 3))) (nI (pm_mi (pd p0))) hI) (cwV 3 hts gX4_whyNot_X4_whyNotMark rfl rfl rfl hd_X4_whyNotMark ⟨Nat.le_of_ble_eq_true rfl, Nat.le_of_ble_eq_true rfl⟩) ⟨pm_ro_blind, va_recv hK hP (ci := 4) (q0 := 0) rfl rfl, pm_ro_pre hP hK⟩ rfl rfl hl.1 rfl (lv_room (Nat.le_of_ble_eq_true rfl)) dX4_whyNot_158 ⟨Nat.le_of_ble_eq_true rfl, Nat.le_of_ble_eq_true rfl⟩) (fun r13 h14 => ?_)
        rcases h14 with ⟨i9, j9, v9, hi9, hj9, hv9, x1, x2, x3, E, rfl⟩ | ⟨z9, E, hz9, rfl⟩
        · skip
          have O : pm_ord S pd ln p0 = pm_aMark S (nI k1) (nI (pm_na pd ln (p0 + 3))) (nI (pm_mi (pd p0))) := by unfold pm_ord pm_d; rw [if_neg (by omega), if_neg (by omega), if_neg (by omega), if_neg (by omega), ek1]; rfl
          exact W.iret hx hb hr (fun t ht _ => ⟨_, rfl, (Or.inl ⟨by rw [O, E]; have := pm_lt4 (S 4 j9) i9; exact nI_pos' (by omega), rfl⟩), ht⟩) (fun _ h => absurd h List.not_mem_nil) dX4_whyNot_161
        · skip
          have O : pm_ord S pd ln p0 = pm_aMark S (nI k1) (nI (pm_na pd ln (p0 + 3))) (nI (pm_mi (pd p0))) := by unfold pm_ord pm_d; rw [if_neg (by omega), if_neg (by omega), if_neg (by omega), if_neg (by omega), ek1]; rfl
          exact W.iret hx hb hr (fun t ht _ => ⟨_, rfl, (Or.inr ⟨by rw [O, E]; exact hz9, by rw [O, E]⟩), ht⟩) (fun _ h => absurd h List.not_mem_nil) dX4_whyNot_161
      · exfalso; omega
    · exact absurd (ed3.symm.trans ek1) (by simp)
  · obtain ⟨⟨k1, ek1⟩, hdot, ⟨k3, ek3⟩, hend⟩ := pm_k_t hoe (by omega)
    have hk1 := (pm_dg9 ek1).1
    have hk3 := (pm_dg9 ek3).1
    refine lv_aload_n hx hb dX4_whyNot_0 rfl (lv_at hl 0 rfl) ?_
    refine lv_iload_n hx hb dX4_whyNot_1 rfl (lv_at hl 1 rfl) ?_
    refine lv_iconst (v := nI 1) hx hb dX4_whyNot_2 (by decide) ?_
    refine kx_iadd hx hb dX4_whyNot_3 ?_
    refine vp_callSi (W.runV (As := [.int (nI (p0 + 1))]) (rest := []) ⟨hx, hb, hml, hown, hts⟩ (k_X4_digit l D y q S gp gs kn ln sv pd (p0 + 1) hPI (by omega)) (cwV 1 hts gX4_whyNot_X4_digit rfl rfl rfl hd_X4_digit ⟨Nat.le_of_ble_eq_true rfl, Nat.le_of_ble_eq_true rfl⟩) ⟨pm_ro_blind, va_recv hK hP (ci := 4) (q0 := 0) rfl rfl, pm_ro_pre hP hK⟩ rfl rfl hl.1 rfl (lv_room (Nat.le_of_ble_eq_true rfl)) dX4_whyNot_4 ⟨Nat.le_of_ble_eq_true rfl, Nat.le_of_ble_eq_true rfl⟩) (fun r15 h16 => ?_)
    rcases h16 with ⟨d17, hd17, ed17, rfl⟩ | ⟨ed17, rfl⟩
    · have qd17 : k1 = d17 := Option.some.inj (ek1.symm.trans ed17)
      subst qd17
      refine lv_istore_n (lv' := [(2, .int (nI k1)), (0, .ref (q 0)), (1, .int (nI p0))]) hx hb dX4_whyNot_7 rfl hl (by decide) rfl (fun ls hl => ?_)
      refine lv_aload_n hx hb dX4_whyNot_8 rfl (lv_at hl 1 rfl) ?_
      refine lv_iload_n hx hb dX4_whyNot_9 rfl (lv_at hl 2 rfl) ?_
      refine vp_callSi (W.runV (As := [.int (nI p0)]) (rest := []) ⟨hx, hb, hml, hown, hts⟩ (k_X4_sign l D y q S gp gs kn ln sv pd p0 hPI (by omega)) (cwV 1 hts gX4_whyNot_X4_sign rfl rfl rfl hd_X4_sign ⟨Nat.le_of_ble_eq_true rfl, Nat.le_of_ble_eq_true rfl⟩) ⟨pm_ro_blind, va_recv hK hP (ci := 4) (q0 := 0) rfl rfl, pm_ro_pre hP hK⟩ rfl rfl hl.1 rfl (lv_room (Nat.le_of_ble_eq_true rfl)) dX4_whyNot_10 ⟨Nat.le_of_ble_eq_true rfl, Nat.le_of_ble_eq_true rfl⟩) (fun r18 h19 => ?_)
      rcases h19 with ⟨hs20, rfl⟩ | ⟨hs20, rfl⟩
      · have := hPI.2 p0 (by omega)
        refine lv_topi (fun x21 e22 => ?_)
        obtain rfl : x21 = nI 120 := e22.trans (congrArg nI hw)
        refine lv_lookup (off := 131) (tgt := 144) hx hb dX4_whyNot_13 (by decide) (by decide) (by decide) ?_
        refine lv_aload_n hx hb dX4_whyNot_144 rfl (lv_at hl 1 rfl) ?_
        refine lv_iload_n hx hb dX4_whyNot_145 rfl (lv_at hl 0 rfl) ?_
        refine lv_aload_n hx hb dX4_whyNot_146 rfl (lv_at hl 1 rfl) ?_
        refine lv_iload_n hx hb dX4_whyNot_147 rfl (lv_at hl 2 rfl) ?_
        refine lv_iconst (v := nI 3) hx hb dX4_whyNot_148 (by decide) ?_
        refine kx_iadd hx hb dX4_whyNot_149 ?_
        refine vp_callSi (W.runV (As := [.int (nI (p0 + 3))]) (rest := [.int (nI k1), .ref (q 0)]) ⟨hx, hb, hml, hown, hts⟩ (k_X4_numberAt l D y q S gp gs kn ln sv pd (p0 + 3) hPI (by omega) ⟨_, ek3⟩) (cwV 1 hts gX4_whyNot_X4_numberAt rfl rfl rfl hd_X4_numberAt ⟨Nat.le_of_ble_eq_true rfl, Nat.le_of_ble_eq_true rfl⟩) ⟨pm_ro_blind, va_recv hK hP (ci := 4) (q0 := 0) rfl rfl, pm_ro_pre hP hK⟩ rfl rfl hl.1 rfl (lv_room (Nat.le_of_ble_eq_true rfl)) dX4_whyNot_150 ⟨Nat.le_of_ble_eq_true rfl, Nat.le_of_ble_eq_true rfl⟩) (fun r23 h24 => ?_)
        obtain rfl : r23 = nI (pm_na pd ln (p0 + 3)) := h24
        have := pm_na_le (P := pd) (ln := ln) (p := (p0 + 3))
        refine lv_aload_n hx hb dX4_whyNot_153 rfl (lv_at hl 1 rfl) ?_
        refine lv_iload_n hx hb dX4_whyNot_154 rfl (lv_at hl 2 rfl) ?_
        refine vp_callSi (W.runV (As := [.int (nI p0)]) (rest := [.int (nI (pm_na pd ln (p0 + 3))), .int (nI k1), .ref (q 0)]) ⟨hx, hb, hml, hown, hts⟩ (k_X4_markIn l D y q S gp gs kn ln sv pd p0 hPI (by omega)) (cwV 1 hts gX4_whyNot_X4_markIn rfl rfl rfl hd_X4_markIn ⟨Nat.le_of_ble_eq_true rfl, Nat.le_of_ble_eq_true rfl⟩) ⟨pm_ro_blind, va_recv hK hP (ci := 4) (q0 := 0) rfl rfl, pm_ro_pre hP hK⟩ rfl rfl hl.1 rfl (lv_room (Nat.le_of_ble_eq_true rfl)) dX4_whyNot_155 ⟨Nat.le_of_ble_eq_true rfl, Nat.le_of_ble_eq_true rfl⟩) (fun r25 h26 => ?_)
        obtain rfl : r25 = nI (pm_mi (pd p0)) := h26
        refine vp_callSi (W.runV (As := [.int (nI k1), .int (nI (pm_na pd ln (p0 + 3))), .int (nI (pm_mi (pd p0)))]) (rest := []) ⟨hx, hb, hml, hown, hts⟩ (k_X4_whyNotMark l D y q S gp gs kn ln sv pd (nI k1) (nI (pm_na pd ln (p0 + 3))) (nI (pm_mi (pd p0))) hI) (cwV 3 hts gX4_whyNot_X4_whyNotMark rfl rfl rfl hd_X4_whyNotMark ⟨Nat.le_of_ble_eq_true rfl, Nat.le_of_ble_eq_true rfl⟩) ⟨pm_ro_blind, va_recv hK hP (ci := 4) (q0 := 0) rfl rfl, pm_ro_pre hP hK⟩ rfl rfl hl.1 rfl (lv_room (Nat.le_of_ble_eq_true rfl)) dX4_whyNot_158 ⟨Nat.le_of_ble_eq_true rfl, Nat.le_of_ble_eq_true rfl⟩) (fun r27 h28 => ?_)
        rcases h28 with ⟨i9, j9, v9, hi9, hj9, hv9, x1, x2, x3, E, rfl⟩ | ⟨z9, E, hz9, rfl⟩
        · skip
          have O : pm_ord S pd ln p0 = pm_aMark S (nI k1) (nI (pm_na pd ln (p0 + 3))) (nI (pm_mi (pd p0))) := by unfold pm_ord pm_d; rw [if_neg (by omega), if_neg (by omega), if_neg (by omega), if_neg (by omega), ek1]; rfl
          exact W.iret hx hb hr (fun t ht _ => ⟨_, rfl, (Or.inl ⟨by rw [O, E]; have := pm_lt4 (S 4 j9) i9; exact nI_pos' (by omega), rfl⟩), ht⟩) (fun _ h => absurd h List.not_mem_nil) dX4_whyNot_161
        · skip
          have O : pm_ord S pd ln p0 = pm_aMark S (nI k1) (nI (pm_na pd ln (p0 + 3))) (nI (pm_mi (pd p0))) := by unfold pm_ord pm_d; rw [if_neg (by omega), if_neg (by omega), if_neg (by omega), if_neg (by omega), ek1]; rfl
          exact W.iret hx hb hr (fun t ht _ => ⟨_, rfl, (Or.inr ⟨by rw [O, E]; exact hz9, by rw [O, E]⟩), ht⟩) (fun _ h => absurd h List.not_mem_nil) dX4_whyNot_161
      · exfalso; omega
    · exact absurd (ed17.symm.trans ek1) (by simp)
  · obtain ⟨⟨k1, ek1⟩, hdot, ⟨k3, ek3⟩, hend⟩ := pm_k_t hoe (by omega)
    have hk1 := (pm_dg9 ek1).1
    have hk3 := (pm_dg9 ek3).1
    refine lv_aload_n hx hb dX4_whyNot_0 rfl (lv_at hl 0 rfl) ?_
    refine lv_iload_n hx hb dX4_whyNot_1 rfl (lv_at hl 1 rfl) ?_
    refine lv_iconst (v := nI 1) hx hb dX4_whyNot_2 (by decide) ?_
    refine kx_iadd hx hb dX4_whyNot_3 ?_
    refine vp_callSi (W.runV (As := [.int (nI (p0 + 1))]) (rest := []) ⟨hx, hb, hml, hown, hts⟩ (k_X4_digit l D y q S gp gs kn ln sv pd (p0 + 1) hPI (by omega)) (cwV 1 hts gX4_whyNot_X4_digit rfl rfl rfl hd_X4_digit ⟨Nat.le_of_ble_eq_true rfl, Nat.le_of_ble_eq_true rfl⟩) ⟨pm_ro_blind, va_recv hK hP (ci := 4) (q0 := 0) rfl rfl, pm_ro_pre hP hK⟩ rfl rfl hl.1 rfl (lv_room (Nat.le_of_ble_eq_true rfl)) dX4_whyNot_4 ⟨Nat.le_of_ble_eq_true rfl, Nat.le_of_ble_eq_true rfl⟩) (fun r29 h30 => ?_)
    rcases h30 with ⟨d31, hd31, ed31, rfl⟩ | ⟨ed31, rfl⟩
    · have qd31 : k1 = d31 := Option.some.inj (ek1.symm.trans ed31)
      subst qd31
      refine lv_istore_n (lv' := [(2, .int (nI k1)), (0, .ref (q 0)), (1, .int (nI p0))]) hx hb dX4_whyNot_7 rfl hl (by decide) rfl (fun ls hl => ?_)
      refine lv_aload_n hx hb dX4_whyNot_8 rfl (lv_at hl 1 rfl) ?_
      refine lv_iload_n hx hb dX4_whyNot_9 rfl (lv_at hl 2 rfl) ?_
      refine vp_callSi (W.runV (As := [.int (nI p0)]) (rest := []) ⟨hx, hb, hml, hown, hts⟩ (k_X4_sign l D y q S gp gs kn ln sv pd p0 hPI (by omega)) (cwV 1 hts gX4_whyNot_X4_sign rfl rfl rfl hd_X4_sign ⟨Nat.le_of_ble_eq_true rfl, Nat.le_of_ble_eq_true rfl⟩) ⟨pm_ro_blind, va_recv hK hP (ci := 4) (q0 := 0) rfl rfl, pm_ro_pre hP hK⟩ rfl rfl hl.1 rfl (lv_room (Nat.le_of_ble_eq_true rfl)) dX4_whyNot_10 ⟨Nat.le_of_ble_eq_true rfl, Nat.le_of_ble_eq_true rfl⟩) (fun r32 h33 => ?_)
      rcases h33 with ⟨hs34, rfl⟩ | ⟨hs34, rfl⟩
      · have := hPI.2 p0 (by omega)
        refine lv_topi (fun x35 e36 => ?_)
        obtain rfl : x35 = nI 111 := e36.trans (congrArg nI hw)
        refine lv_lookup (off := 131) (tgt := 144) hx hb dX4_whyNot_13 (by decide) (by decide) (by decide) ?_
        refine lv_aload_n hx hb dX4_whyNot_144 rfl (lv_at hl 1 rfl) ?_
        refine lv_iload_n hx hb dX4_whyNot_145 rfl (lv_at hl 0 rfl) ?_
        refine lv_aload_n hx hb dX4_whyNot_146 rfl (lv_at hl 1 rfl) ?_
        refine lv_iload_n hx hb dX4_whyNot_147 rfl (lv_at hl 2 rfl) ?_
        refine lv_iconst (v := nI 3) hx hb dX4_whyNot_148 (by decide) ?_
        refine kx_iadd hx hb dX4_whyNot_149 ?_
        refine vp_callSi (W.runV (As := [.int (nI (p0 + 3))]) (rest := [.int (nI k1), .ref (q 0)]) ⟨hx, hb, hml, hown, hts⟩ (k_X4_numberAt l D y q S gp gs kn ln sv pd (p0 + 3) hPI (by omega) ⟨_, ek3⟩) (cwV 1 hts gX4_whyNot_X4_numberAt rfl rfl rfl hd_X4_numberAt ⟨Nat.le_of_ble_eq_true rfl, Nat.le_of_ble_eq_true rfl⟩) ⟨pm_ro_blind, va_recv hK hP (ci := 4) (q0 := 0) rfl rfl, pm_ro_pre hP hK⟩ rfl rfl hl.1 rfl (lv_room (Nat.le_of_ble_eq_true rfl)) dX4_whyNot_150 ⟨Nat.le_of_ble_eq_true rfl, Nat.le_of_ble_eq_true rfl⟩) (fun r37 h38 => ?_)
        obtain rfl : r37 = nI (pm_na pd ln (p0 + 3)) := h38
        have := pm_na_le (P := pd) (ln := ln) (p := (p0 + 3))
        refine lv_aload_n hx hb dX4_whyNot_153 rfl (lv_at hl 1 rfl) ?_
        refine lv_iload_n hx hb dX4_whyNot_154 rfl (lv_at hl 2 rfl) ?_
        refine vp_callSi (W.runV (As := [.int (nI p0)]) (rest := [.int (nI (pm_na pd ln (p0 + 3))), .int (nI k1), .ref (q 0)]) ⟨hx, hb, hml, hown, hts⟩ (k_X4_markIn l D y q S gp gs kn ln sv pd p0 hPI (by omega)) (cwV 1 hts gX4_whyNot_X4_markIn rfl rfl rfl hd_X4_markIn ⟨Nat.le_of_ble_eq_true rfl, Nat.le_of_ble_eq_true rfl⟩) ⟨pm_ro_blind, va_recv hK hP (ci := 4) (q0 := 0) rfl rfl, pm_ro_pre hP hK⟩ rfl rfl hl.1 rfl (lv_room (Nat.le_of_ble_eq_true rfl)) dX4_whyNot_155 ⟨Nat.le_of_ble_eq_true rfl, Nat.le_of_ble_eq_true rfl⟩) (fun r39 h40 => ?_)
        obtain rfl : r39 = nI (pm_mi (pd p0)) := h40
        refine vp_callSi (W.runV (As := [.int (nI k1), .int (nI (pm_na pd ln (p0 + 3))), .int (nI (pm_mi (pd p0)))]) (rest := []) ⟨hx, hb, hml, hown, hts⟩ (k_X4_whyNotMark l D y q S gp gs kn ln sv pd (nI k1) (nI (pm_na pd ln (p0 + 3))) (nI (pm_mi (pd p0))) hI) (cwV 3 hts gX4_whyNot_X4_whyNotMark rfl rfl rfl hd_X4_whyNotMark ⟨Nat.le_of_ble_eq_true rfl, Nat.le_of_ble_eq_true rfl⟩) ⟨pm_ro_blind, va_recv hK hP (ci := 4) (q0 := 0) rfl rfl, pm_ro_pre hP hK⟩ rfl rfl hl.1 rfl (lv_room (Nat.le_of_ble_eq_true rfl)) dX4_whyNot_158 ⟨Nat.le_of_ble_eq_true rfl, Nat.le_of_ble_eq_true rfl⟩) (fun r41 h42 => ?_)
        rcases h42 with ⟨i9, j9, v9, hi9, hj9, hv9, x1, x2, x3, E, rfl⟩ | ⟨z9, E, hz9, rfl⟩
        · skip
          have O : pm_ord S pd ln p0 = pm_aMark S (nI k1) (nI (pm_na pd ln (p0 + 3))) (nI (pm_mi (pd p0))) := by unfold pm_ord pm_d; rw [if_neg (by omega), if_neg (by omega), if_neg (by omega), if_neg (by omega), ek1]; rfl
          exact W.iret hx hb hr (fun t ht _ => ⟨_, rfl, (Or.inl ⟨by rw [O, E]; have := pm_lt4 (S 4 j9) i9; exact nI_pos' (by omega), rfl⟩), ht⟩) (fun _ h => absurd h List.not_mem_nil) dX4_whyNot_161
        · skip
          have O : pm_ord S pd ln p0 = pm_aMark S (nI k1) (nI (pm_na pd ln (p0 + 3))) (nI (pm_mi (pd p0))) := by unfold pm_ord pm_d; rw [if_neg (by omega), if_neg (by omega), if_neg (by omega), if_neg (by omega), ek1]; rfl
          exact W.iret hx hb hr (fun t ht _ => ⟨_, rfl, (Or.inr ⟨by rw [O, E]; exact hz9, by rw [O, E]⟩), ht⟩) (fun _ h => absurd h List.not_mem_nil) dX4_whyNot_161
      · exfalso; omega
    · exact absurd (ed31.symm.trans ek1) (by simp)
  · obtain ⟨⟨k1, ek1⟩, ⟨k2, ek2⟩, hdot, ⟨k4, ek4⟩, hend⟩ := pm_k_a hoe hw
    have hk1 := (pm_dg9 ek1).1
    have hk2 := (pm_dg9 ek2).1
    have hk4 := (pm_dg9 ek4).1
    refine lv_aload_n hx hb dX4_whyNot_0 rfl (lv_at hl 0 rfl) ?_
    refine lv_iload_n hx hb dX4_whyNot_1 rfl (lv_at hl 1 rfl) ?_
    refine lv_iconst (v := nI 1) hx hb dX4_whyNot_2 (by decide) ?_
    refine kx_iadd hx hb dX4_whyNot_3 ?_
    refine vp_callSi (W.runV (As := [.int (nI (p0 + 1))]) (rest := []) ⟨hx, hb, hml, hown, hts⟩ (k_X4_digit l D y q S gp gs kn ln sv pd (p0 + 1) hPI (by omega)) (cwV 1 hts gX4_whyNot_X4_digit rfl rfl rfl hd_X4_digit ⟨Nat.le_of_ble_eq_true rfl, Nat.le_of_ble_eq_true rfl⟩) ⟨pm_ro_blind, va_recv hK hP (ci := 4) (q0 := 0) rfl rfl, pm_ro_pre hP hK⟩ rfl rfl hl.1 rfl (lv_room (Nat.le_of_ble_eq_true rfl)) dX4_whyNot_4 ⟨Nat.le_of_ble_eq_true rfl, Nat.le_of_ble_eq_true rfl⟩) (fun r43 h44 => ?_)
    rcases h44 with ⟨d45, hd45, ed45, rfl⟩ | ⟨ed45, rfl⟩
    · have qd45 : k1 = d45 := Option.some.inj (ek1.symm.trans ed45)
      subst qd45
      refine lv_istore_n (lv' := [(2, .int (nI k1)), (0, .ref (q 0)), (1, .int (nI p0))]) hx hb dX4_whyNot_7 rfl hl (by decide) rfl (fun ls hl => ?_)
      refine lv_aload_n hx hb dX4_whyNot_8 rfl (lv_at hl 1 rfl) ?_
      refine lv_iload_n hx hb dX4_whyNot_9 rfl (lv_at hl 2 rfl) ?_
      refine vp_callSi (W.runV (As := [.int (nI p0)]) (rest := []) ⟨hx, hb, hml, hown, hts⟩ (k_X4_sign l D y q S gp gs kn ln sv pd p0 hPI (by omega)) (cwV 1 hts gX4_whyNot_X4_sign rfl rfl rfl hd_X4_sign ⟨Nat.le_of_ble_eq_true rfl, Nat.le_of_ble_eq_true rfl⟩) ⟨pm_ro_blind, va_recv hK hP (ci := 4) (q0 := 0) rfl rfl, pm_ro_pre hP hK⟩ rfl rfl hl.1 rfl (lv_room (Nat.le_of_ble_eq_true rfl)) dX4_whyNot_10 ⟨Nat.le_of_ble_eq_true rfl, Nat.le_of_ble_eq_true rfl⟩) (fun r46 h47 => ?_)
      rcases h47 with ⟨hs48, rfl⟩ | ⟨hs48, rfl⟩
      · have := hPI.2 p0 (by omega)
        refine lv_topi (fun x49 e50 => ?_)
        obtain rfl : x49 = nI 97 := e50.trans (congrArg nI hw)
        refine lv_lookup (off := 43) (tgt := 56) hx hb dX4_whyNot_13 (by decide) (by decide) (by decide) ?_
        refine lv_aload_n hx hb dX4_whyNot_56 rfl (lv_at hl 1 rfl) ?_
        refine lv_iload_n hx hb dX4_whyNot_57 rfl (lv_at hl 0 rfl) ?_
        refine lv_aload_n hx hb dX4_whyNot_58 rfl (lv_at hl 1 rfl) ?_
        refine lv_iload_n hx hb dX4_whyNot_59 rfl (lv_at hl 2 rfl) ?_
        refine lv_iconst (v := nI 2) hx hb dX4_whyNot_60 (by decide) ?_
        refine kx_iadd hx hb dX4_whyNot_61 ?_
        refine vp_callSi (W.runV (As := [.int (nI (p0 + 2))]) (rest := [.int (nI k1), .ref (q 0)]) ⟨hx, hb, hml, hown, hts⟩ (k_X4_digit l D y q S gp gs kn ln sv pd (p0 + 2) hPI (by omega)) (cwV 1 hts gX4_whyNot_X4_digit rfl rfl rfl hd_X4_digit ⟨Nat.le_of_ble_eq_true rfl, Nat.le_of_ble_eq_true rfl⟩) ⟨pm_ro_blind, va_recv hK hP (ci := 4) (q0 := 0) rfl rfl, pm_ro_pre hP hK⟩ rfl rfl hl.1 rfl (lv_room (Nat.le_of_ble_eq_true rfl)) dX4_whyNot_62 ⟨Nat.le_of_ble_eq_true rfl, Nat.le_of_ble_eq_true rfl⟩) (fun r51 h52 => ?_)
        rcases h52 with ⟨d53, hd53, ed53, rfl⟩ | ⟨ed53, rfl⟩
        · have qd53 : k2 = d53 := Option.some.inj (ek2.symm.trans ed53)
          subst qd53
          refine lv_aload_n hx hb dX4_whyNot_65 rfl (lv_at hl 1 rfl) ?_
          refine lv_iload_n hx hb dX4_whyNot_66 rfl (lv_at hl 2 rfl) ?_
          refine lv_iconst (v := nI 4) hx hb dX4_whyNot_67 (by decide) ?_
          refine kx_iadd hx hb dX4_whyNot_68 ?_
          refine vp_callSi (W.runV (As := [.int (nI (p0 + 4))]) (rest := [.int (nI k2), .int (nI k1), .ref (q 0)]) ⟨hx, hb, hml, hown, hts⟩ (k_X4_numberAt l D y q S gp gs kn ln sv pd (p0 + 4) hPI (by omega) ⟨_, ek4⟩) (cwV 1 hts gX4_whyNot_X4_numberAt rfl rfl rfl hd_X4_numberAt ⟨Nat.le_of_ble_eq_true rfl, Nat.le_of_ble_eq_true rfl⟩) ⟨pm_ro_blind, va_recv hK hP (ci := 4) (q0 := 0) rfl rfl, pm_ro_pre hP hK⟩ rfl rfl hl.1 rfl (lv_room (Nat.le_of_ble_eq_true rfl)) dX4_whyNot_69 ⟨Nat.le_of_ble_eq_true rfl, Nat.le_of_ble_eq_true rfl⟩) (fun r54 h55 => ?_)
          obtain rfl : r54 = nI (pm_na pd ln (p0 + 4)) := h55
          have := pm_na_le (P := pd) (ln := ln) (p := (p0 + 4))
          refine vp_callSi (W.runV (As := [.int (nI k1), .int (nI k2), .int (nI (pm_na pd ln (p0 + 4)))]) (rest := []) ⟨hx, hb, hml, hown, hts⟩ (k_X4_whyNotArgue l D y q S gp gs kn ln sv pd (nI k1) (nI k2) (nI (pm_na pd ln (p0 + 4))) hI) (cwV 3 hts gX4_whyNot_X4_whyNotArgue rfl rfl rfl hd_X4_whyNotArgue ⟨Nat.le_of_ble_eq_true rfl, Nat.le_of_ble_eq_true rfl⟩) ⟨pm_ro_blind, va_recv hK hP (ci := 4) (q0 := 0) rfl rfl, pm_ro_pre hP hK⟩ rfl rfl hl.1 rfl (lv_room (Nat.le_of_ble_eq_true rfl)) dX4_whyNot_72 ⟨Nat.le_of_ble_eq_true rfl, Nat.le_of_ble_eq_true rfl⟩) (fun r56 h57 => ?_)
          rcases h57 with ⟨i9, k9, j9, hi9, hk9, hj9, x1, x2, x3, hne, hmk, hpt, rfl⟩ | ⟨z9, E, hz9, rfl⟩
          · skip
            have O : pm_ord S pd ln p0 = pm_aArgue S (nI k1) (nI k2) (nI (pm_na pd ln (p0 + 4))) := by unfold pm_ord pm_d; rw [if_pos hw, ek1, ek2]; rfl
            exact W.iret hx hb hr (fun t ht _ => ⟨_, rfl, (Or.inl ⟨by rw [O, x1, x2, x3]; obtain ⟨x9, hx9, ex9⟩ := pm_arg01 hI hi9 hk9 hj9 hne hmk hpt; rw [ex9]; exact nI_pos' (by omega), rfl⟩), ht⟩) (fun _ h => absurd h List.not_mem_nil) dX4_whyNot_75
          · skip
            have O : pm_ord S pd ln p0 = pm_aArgue S (nI k1) (nI k2) (nI (pm_na pd ln (p0 + 4))) := by unfold pm_ord pm_d; rw [if_pos hw, ek1, ek2]; rfl
            exact W.iret hx hb hr (fun t ht _ => ⟨_, rfl, (Or.inr ⟨by rw [O, E]; exact hz9, by rw [O, E]⟩), ht⟩) (fun _ h => absurd h List.not_mem_nil) dX4_whyNot_75
        · exact absurd (ed53.symm.trans ek2) (by simp)
      · exfalso; omega
    · exact absurd (ed45.symm.trans ek1) (by simp)
  · skip
    refine lv_aload_n hx hb dX4_whyNot_0 rfl (lv_at hl 0 rfl) ?_
    refine lv_iload_n hx hb dX4_whyNot_1 rfl (lv_at hl 1 rfl) ?_
    refine lv_iconst (v := nI 1) hx hb dX4_whyNot_2 (by decide) ?_
    refine kx_iadd hx hb dX4_whyNot_3 ?_
    refine vp_callSi (W.runV (As := [.int (nI (p0 + 1))]) (rest := []) ⟨hx, hb, hml, hown, hts⟩ (k_X4_digit l D y q S gp gs kn ln sv pd (p0 + 1) hPI (by omega)) (cwV 1 hts gX4_whyNot_X4_digit rfl rfl rfl hd_X4_digit ⟨Nat.le_of_ble_eq_true rfl, Nat.le_of_ble_eq_true rfl⟩) ⟨pm_ro_blind, va_recv hK hP (ci := 4) (q0 := 0) rfl rfl, pm_ro_pre hP hK⟩ rfl rfl hl.1 rfl (lv_room (Nat.le_of_ble_eq_true rfl)) dX4_whyNot_4 ⟨Nat.le_of_ble_eq_true rfl, Nat.le_of_ble_eq_true rfl⟩) (fun r58 h59 => ?_)
    rcases h59 with ⟨d60, hd60, ed60, rfl⟩ | ⟨ed60, rfl⟩
    · have := (pm_dg9 ed60).2
      refine lv_istore_n (lv' := [(2, .int (nI d60)), (0, .ref (q 0)), (1, .int (nI p0))]) hx hb dX4_whyNot_7 rfl hl (by decide) rfl (fun ls hl => ?_)
      refine lv_aload_n hx hb dX4_whyNot_8 rfl (lv_at hl 1 rfl) ?_
      refine lv_iload_n hx hb dX4_whyNot_9 rfl (lv_at hl 2 rfl) ?_
      refine vp_callSi (W.runV (As := [.int (nI p0)]) (rest := []) ⟨hx, hb, hml, hown, hts⟩ (k_X4_sign l D y q S gp gs kn ln sv pd p0 hPI (by omega)) (cwV 1 hts gX4_whyNot_X4_sign rfl rfl rfl hd_X4_sign ⟨Nat.le_of_ble_eq_true rfl, Nat.le_of_ble_eq_true rfl⟩) ⟨pm_ro_blind, va_recv hK hP (ci := 4) (q0 := 0) rfl rfl, pm_ro_pre hP hK⟩ rfl rfl hl.1 rfl (lv_room (Nat.le_of_ble_eq_true rfl)) dX4_whyNot_10 ⟨Nat.le_of_ble_eq_true rfl, Nat.le_of_ble_eq_true rfl⟩) (fun r61 h62 => ?_)
      rcases h62 with ⟨hs63, rfl⟩ | ⟨hs63, rfl⟩
      · have := hPI.2 p0 (by omega)
        refine lv_topi (fun x64 e65 => ?_)
        obtain rfl : x64 = nI 114 := e65.trans (congrArg nI hw)
        refine lv_lookup (off := 63) (tgt := 76) hx hb dX4_whyNot_13 (by decide) (by decide) (by decide) ?_
        refine lv_aload_n hx hb dX4_whyNot_76 rfl (lv_at hl 1 rfl) ?_
        refine va_get (D := D) (ci := 4) (v := .ref (q 1)) (C := RX4) (T := TX4) (N := 7) hx hb hts hin4 hown hK hP 0 rfl rfl 0 (by decide) (hts (.fieldLink RX4 7 "ProofMarksModel" "s" "[I") (List.mem_of_getElem? (i := 1) rfl)) (fun _ h9 => h9) rfl dX4_whyNot_77 ?_
        refine lv_sipush (v := nI 166) hx hb dX4_whyNot_80 (by decide) ?_
        refine kx_iald (v := nI (S 10 0)) hx hb hK hP 1 0 rfl rfl (by omega) (by decide) (pm_ms_r (S := S) (k := 0) (by decide)) dX4_whyNot_83 ?_
        have := hI.rnd
        refine lv_bipush (v := nI 99) hx hb dX4_whyNot_84 (by decide) ?_
        refine kx_icmp_ne (tgt := 94) hx hb (by omega) (by decide) dX4_whyNot_86 (by decide) (fun c66 => ?_) (fun c66 => ?_)
        · skip
          refine lv_iconst (v := nI 0) hx hb dX4_whyNot_94 (by decide) ?_
          have O : pm_ord S pd ln p0 = pm_aRound S := by unfold pm_ord; rw [if_neg (by omega), if_pos hw]
          have E : pm_aRound S = (nI (pm_rct S 30), pm_st (pm_mid2 S 3) 10 0 (S 10 0 + 1)) := by rw [pm_aRound, if_neg (by omega)]; rfl
          have := pm_rct_le S 30
          exact W.iret hx hb hr (fun t ht _ => ⟨_, rfl, (Or.inl ⟨by rw [O, E]; exact nI_pos' (by omega), rfl⟩), ht⟩) (fun _ h => absurd h List.not_mem_nil) dX4_whyNot_95
        · skip
          refine lv_bipush (v := (-5)) hx hb dX4_whyNot_89 (by decide) ?_
          refine lv_goto (tgt := 95) hx hb dX4_whyNot_91 (by decide) ?_
          have O : pm_ord S pd ln p0 = pm_aRound S := by unfold pm_ord; rw [if_neg (by omega), if_pos hw]
          have E : pm_aRound S = (-5, S) := by rw [pm_aRound, if_pos (by omega)]
          exact W.iret hx hb hr (fun t ht _ => ⟨_, rfl, (Or.inr ⟨by rw [O, E]; exact pm_neg5, by rw [O, E]⟩), ht⟩) (fun _ h => absurd h List.not_mem_nil) dX4_whyNot_95
      · exfalso; omega
    · skip
      refine lv_istore_n (lv' := [(2, .int (-1)), (0, .ref (q 0)), (1, .int (nI p0))]) hx hb dX4_whyNot_7 rfl hl (by decide) rfl (fun ls hl => ?_)
      refine lv_aload_n hx hb dX4_whyNot_8 rfl (lv_at hl 1 rfl) ?_
      refine lv_iload_n hx hb dX4_whyNot_9 rfl (lv_at hl 2 rfl) ?_
      refine vp_callSi (W.runV (As := [.int (nI p0)]) (rest := []) ⟨hx, hb, hml, hown, hts⟩ (k_X4_sign l D y q S gp gs kn ln sv pd p0 hPI (by omega)) (cwV 1 hts gX4_whyNot_X4_sign rfl rfl rfl hd_X4_sign ⟨Nat.le_of_ble_eq_true rfl, Nat.le_of_ble_eq_true rfl⟩) ⟨pm_ro_blind, va_recv hK hP (ci := 4) (q0 := 0) rfl rfl, pm_ro_pre hP hK⟩ rfl rfl hl.1 rfl (lv_room (Nat.le_of_ble_eq_true rfl)) dX4_whyNot_10 ⟨Nat.le_of_ble_eq_true rfl, Nat.le_of_ble_eq_true rfl⟩) (fun r67 h68 => ?_)
      rcases h68 with ⟨hs69, rfl⟩ | ⟨hs69, rfl⟩
      · have := hPI.2 p0 (by omega)
        refine lv_topi (fun x70 e71 => ?_)
        obtain rfl : x70 = nI 114 := e71.trans (congrArg nI hw)
        refine lv_lookup (off := 63) (tgt := 76) hx hb dX4_whyNot_13 (by decide) (by decide) (by decide) ?_
        refine lv_aload_n hx hb dX4_whyNot_76 rfl (lv_at hl 1 rfl) ?_
        refine va_get (D := D) (ci := 4) (v := .ref (q 1)) (C := RX4) (T := TX4) (N := 7) hx hb hts hin4 hown hK hP 0 rfl rfl 0 (by decide) (hts (.fieldLink RX4 7 "ProofMarksModel" "s" "[I") (List.mem_of_getElem? (i := 1) rfl)) (fun _ h9 => h9) rfl dX4_whyNot_77 ?_
        refine lv_sipush (v := nI 166) hx hb dX4_whyNot_80 (by decide) ?_
        refine kx_iald (v := nI (S 10 0)) hx hb hK hP 1 0 rfl rfl (by omega) (by decide) (pm_ms_r (S := S) (k := 0) (by decide)) dX4_whyNot_83 ?_
        have := hI.rnd
        refine lv_bipush (v := nI 99) hx hb dX4_whyNot_84 (by decide) ?_
        refine kx_icmp_ne (tgt := 94) hx hb (by omega) (by decide) dX4_whyNot_86 (by decide) (fun c72 => ?_) (fun c72 => ?_)
        · skip
          refine lv_iconst (v := nI 0) hx hb dX4_whyNot_94 (by decide) ?_
          have O : pm_ord S pd ln p0 = pm_aRound S := by unfold pm_ord; rw [if_neg (by omega), if_pos hw]
          have E : pm_aRound S = (nI (pm_rct S 30), pm_st (pm_mid2 S 3) 10 0 (S 10 0 + 1)) := by rw [pm_aRound, if_neg (by omega)]; rfl
          have := pm_rct_le S 30
          exact W.iret hx hb hr (fun t ht _ => ⟨_, rfl, (Or.inl ⟨by rw [O, E]; exact nI_pos' (by omega), rfl⟩), ht⟩) (fun _ h => absurd h List.not_mem_nil) dX4_whyNot_95
        · skip
          refine lv_bipush (v := (-5)) hx hb dX4_whyNot_89 (by decide) ?_
          refine lv_goto (tgt := 95) hx hb dX4_whyNot_91 (by decide) ?_
          have O : pm_ord S pd ln p0 = pm_aRound S := by unfold pm_ord; rw [if_neg (by omega), if_pos hw]
          have E : pm_aRound S = (-5, S) := by rw [pm_aRound, if_pos (by omega)]
          exact W.iret hx hb hr (fun t ht _ => ⟨_, rfl, (Or.inr ⟨by rw [O, E]; exact pm_neg5, by rw [O, E]⟩), ht⟩) (fun _ h => absurd h List.not_mem_nil) dX4_whyNot_95
      · exfalso; omega
  · obtain ⟨e1, he1, ⟨k1, ek1⟩, hstar, ⟨kz, ekz⟩, hend, he1b⟩ := pm_k_p hoe hw
    have hk1 := (pm_dg9 ek1).1
    have hkz := (pm_dg9 ekz).1
    refine lv_aload_n hx hb dX4_whyNot_0 rfl (lv_at hl 0 rfl) ?_
    refine lv_iload_n hx hb dX4_whyNot_1 rfl (lv_at hl 1 rfl) ?_
    refine lv_iconst (v := nI 1) hx hb dX4_whyNot_2 (by decide) ?_
    refine kx_iadd hx hb dX4_whyNot_3 ?_
    refine vp_callSi (W.runV (As := [.int (nI (p0 + 1))]) (rest := []) ⟨hx, hb, hml, hown, hts⟩ (k_X4_digit l D y q S gp gs kn ln sv pd (p0 + 1) hPI (by omega)) (cwV 1 hts gX4_whyNot_X4_digit rfl rfl rfl hd_X4_digit ⟨Nat.le_of_ble_eq_true rfl, Nat.le_of_ble_eq_true rfl⟩) ⟨pm_ro_blind, va_recv hK hP (ci := 4) (q0 := 0) rfl rfl, pm_ro_pre hP hK⟩ rfl rfl hl.1 rfl (lv_room (Nat.le_of_ble_eq_true rfl)) dX4_whyNot_4 ⟨Nat.le_of_ble_eq_true rfl, Nat.le_of_ble_eq_true rfl⟩) (fun r73 h74 => ?_)
    rcases h74 with ⟨d75, hd75, ed75, rfl⟩ | ⟨ed75, rfl⟩
    · have qd75 : k1 = d75 := Option.some.inj (ek1.symm.trans ed75)
      subst qd75
      refine lv_istore_n (lv' := [(2, .int (nI k1)), (0, .ref (q 0)), (1, .int (nI p0))]) hx hb dX4_whyNot_7 rfl hl (by decide) rfl (fun ls hl => ?_)
      refine lv_aload_n hx hb dX4_whyNot_8 rfl (lv_at hl 1 rfl) ?_
      refine lv_iload_n hx hb dX4_whyNot_9 rfl (lv_at hl 2 rfl) ?_
      refine vp_callSi (W.runV (As := [.int (nI p0)]) (rest := []) ⟨hx, hb, hml, hown, hts⟩ (k_X4_sign l D y q S gp gs kn ln sv pd p0 hPI (by omega)) (cwV 1 hts gX4_whyNot_X4_sign rfl rfl rfl hd_X4_sign ⟨Nat.le_of_ble_eq_true rfl, Nat.le_of_ble_eq_true rfl⟩) ⟨pm_ro_blind, va_recv hK hP (ci := 4) (q0 := 0) rfl rfl, pm_ro_pre hP hK⟩ rfl rfl hl.1 rfl (lv_room (Nat.le_of_ble_eq_true rfl)) dX4_whyNot_10 ⟨Nat.le_of_ble_eq_true rfl, Nat.le_of_ble_eq_true rfl⟩) (fun r76 h77 => ?_)
      rcases h77 with ⟨hs78, rfl⟩ | ⟨hs78, rfl⟩
      · have := hPI.2 p0 (by omega)
        refine lv_topi (fun x79 e80 => ?_)
        obtain rfl : x79 = nI 112 := e80.trans (congrArg nI hw)
        refine lv_lookup (off := 83) (tgt := 96) hx hb dX4_whyNot_13 (by decide) (by decide) (by decide) ?_
        refine lv_aload_n hx hb dX4_whyNot_96 rfl (lv_at hl 1 rfl) ?_
        refine lv_aload_n hx hb dX4_whyNot_97 rfl (lv_at hl 1 rfl) ?_
        refine lv_iload_n hx hb dX4_whyNot_98 rfl (lv_at hl 2 rfl) ?_
        refine lv_iconst (v := nI 1) hx hb dX4_whyNot_99 (by decide) ?_
        refine kx_iadd hx hb dX4_whyNot_100 ?_
        refine vp_callSi (W.runV (As := [.int (nI (p0 + 1))]) (rest := [.ref (q 0)]) ⟨hx, hb, hml, hown, hts⟩ (k_X4_numberAt l D y q S gp gs kn ln sv pd (p0 + 1) hPI (by omega) ⟨_, ek1⟩) (cwV 1 hts gX4_whyNot_X4_numberAt rfl rfl rfl hd_X4_numberAt ⟨Nat.le_of_ble_eq_true rfl, Nat.le_of_ble_eq_true rfl⟩) ⟨pm_ro_blind, va_recv hK hP (ci := 4) (q0 := 0) rfl rfl, pm_ro_pre hP hK⟩ rfl rfl hl.1 rfl (lv_room (Nat.le_of_ble_eq_true rfl)) dX4_whyNot_101 ⟨Nat.le_of_ble_eq_true rfl, Nat.le_of_ble_eq_true rfl⟩) (fun r81 h82 => ?_)
        obtain rfl : r81 = nI (pm_na pd ln (p0 + 1)) := h82
        have := pm_na_le (P := pd) (ln := ln) (p := (p0 + 1))
        refine lv_aload_n hx hb dX4_whyNot_104 rfl (lv_at hl 1 rfl) ?_
        refine lv_aload_n hx hb dX4_whyNot_105 rfl (lv_at hl 1 rfl) ?_
        refine lv_iload_n hx hb dX4_whyNot_106 rfl (lv_at hl 2 rfl) ?_
        refine lv_iconst (v := nI 1) hx hb dX4_whyNot_107 (by decide) ?_
        refine kx_iadd hx hb dX4_whyNot_108 ?_
        refine vp_callSi (W.runV (As := [.int (nI (p0 + 1))]) (rest := [.ref (q 0), .int (nI (pm_na pd ln (p0 + 1))), .ref (q 0)]) ⟨hx, hb, hml, hown, hts⟩ (k_X4_numberEnd l D y q S gp gs kn ln sv pd (.inl (p0 + 1)) hPI (by have e9 : ∀ z : Nat, pm_sz (.inl z) = z := fun _ => rfl; simp only [e9] at *; omega)) (cwV 1 hts gX4_whyNot_X4_numberEnd rfl rfl rfl hd_X4_numberEnd ⟨Nat.le_of_ble_eq_true rfl, Nat.le_of_ble_eq_true rfl⟩) ⟨pm_ro_blind, va_recv hK hP (ci := 4) (q0 := 0) rfl rfl, pm_ro_pre hP hK⟩ rfl rfl hl.1 rfl (lv_room (Nat.le_of_ble_eq_true rfl)) dX4_whyNot_109 ⟨Nat.le_of_ble_eq_true rfl, Nat.le_of_ble_eq_true rfl⟩) (fun r83 h84 => ?_)
        obtain rfl : r83 = pm_en (pm_bd (.inl (p0 + 1)) (pm_ne pd ln)) := h84
        have := pm_sz_ne (P := pd) (ln := ln) (.inl (p0 + 1))
        refine lv_topi (fun x85 e86 => ?_)
        obtain rfl : x85 = nI e1 := e86.trans ((show pm_en (pm_ne pd ln (p0 + 1)) = nI e1 from by rw [he1]; rfl))
        refine lv_iconst (v := nI 1) hx hb dX4_whyNot_112 (by decide) ?_
        refine kx_iadd hx hb dX4_whyNot_113 ?_
        refine vp_callSi (W.runV (As := [.int (nI (e1 + 1))]) (rest := [.int (nI (pm_na pd ln (p0 + 1))), .ref (q 0)]) ⟨hx, hb, hml, hown, hts⟩ (k_X4_digit l D y q S gp gs kn ln sv pd (e1 + 1) hPI (by omega)) (cwV 1 hts gX4_whyNot_X4_digit rfl rfl rfl hd_X4_digit ⟨Nat.le_of_ble_eq_true rfl, Nat.le_of_ble_eq_true rfl⟩) ⟨pm_ro_blind, va_recv hK hP (ci := 4) (q0 := 0) rfl rfl, pm_ro_pre hP hK⟩ rfl rfl hl.1 rfl (lv_room (Nat.le_of_ble_eq_true rfl)) dX4_whyNot_114 ⟨Nat.le_of_ble_eq_true rfl, Nat.le_of_ble_eq_true rfl⟩) (fun r87 h88 => ?_)
        rcases h88 with ⟨d89, hd89, ed89, rfl⟩ | ⟨ed89, rfl⟩
        · have qd89 : kz = d89 := Option.some.inj (ekz.symm.trans ed89)
          subst qd89
          refine vp_callSi (W.runV (As := [.int (nI (pm_na pd ln (p0 + 1))), .int (nI kz)]) (rest := []) ⟨hx, hb, hml, hown, hts⟩ (k_X4_whyNotPrint l D y q S gp gs kn ln sv pd (nI (pm_na pd ln (p0 + 1))) (nI kz) hI) (cwV 2 hts gX4_whyNot_X4_whyNotPrint rfl rfl rfl hd_X4_whyNotPrint ⟨Nat.le_of_ble_eq_true rfl, Nat.le_of_ble_eq_true rfl⟩) ⟨pm_ro_blind, va_recv hK hP (ci := 4) (q0 := 0) rfl rfl, pm_ro_pre hP hK⟩ rfl rfl hl.1 rfl (lv_room (Nat.le_of_ble_eq_true rfl)) dX4_whyNot_117 ⟨Nat.le_of_ble_eq_true rfl, Nat.le_of_ble_eq_true rfl⟩) (fun r90 h91 => ?_)
          rcases h91 with ⟨j9, w9, hj9, hw9, hw0, x1, x2, hpp, E, rfl⟩ | ⟨z9, E, hz9, rfl⟩
          · skip
            have O : pm_ord S pd ln p0 = pm_aPrint S (nI (pm_na pd ln (p0 + 1))) (nI kz) := by unfold pm_ord pm_d; rw [if_neg (by omega), if_neg (by omega), if_pos hw, he1, show pm_sz (.inl e1) = e1 from rfl, ekz]; rfl
            exact W.iret hx hb hr (fun t ht _ => ⟨_, rfl, (Or.inl ⟨by rw [O, E]; have := hI.pap; exact nI_pos' (by omega), rfl⟩), ht⟩) (fun _ h => absurd h List.not_mem_nil) dX4_whyNot_120
          · skip
            have O : pm_ord S pd ln p0 = pm_aPrint S (nI (pm_na pd ln (p0 + 1))) (nI kz) := by unfold pm_ord pm_d; rw [if_neg (by omega), if_neg (by omega), if_pos hw, he1, show pm_sz (.inl e1) = e1 from rfl, ekz]; rfl
            exact W.iret hx hb hr (fun t ht _ => ⟨_, rfl, (Or.inr ⟨by rw [O, E]; exact hz9, by rw [O, E]⟩), ht⟩) (fun _ h => absurd h List.not_mem_nil) dX4_whyNot_120
        · exact absurd (ed89.symm.trans ekz) (by simp)
      · exfalso; omega
    · exact absurd (ed75.symm.trans ek1) (by simp)
  · obtain ⟨⟨k1, ek1⟩, hend⟩ := pm_k_b hoe hw
    have hk1 := (pm_dg9 ek1).1
    refine lv_aload_n hx hb dX4_whyNot_0 rfl (lv_at hl 0 rfl) ?_
    refine lv_iload_n hx hb dX4_whyNot_1 rfl (lv_at hl 1 rfl) ?_
    refine lv_iconst (v := nI 1) hx hb dX4_whyNot_2 (by decide) ?_
    refine kx_iadd hx hb dX4_whyNot_3 ?_
    refine vp_callSi (W.runV (As := [.int (nI (p0 + 1))]) (rest := []) ⟨hx, hb, hml, hown, hts⟩ (k_X4_digit l D y q S gp gs kn ln sv pd (p0 + 1) hPI (by omega)) (cwV 1 hts gX4_whyNot_X4_digit rfl rfl rfl hd_X4_digit ⟨Nat.le_of_ble_eq_true rfl, Nat.le_of_ble_eq_true rfl⟩) ⟨pm_ro_blind, va_recv hK hP (ci := 4) (q0 := 0) rfl rfl, pm_ro_pre hP hK⟩ rfl rfl hl.1 rfl (lv_room (Nat.le_of_ble_eq_true rfl)) dX4_whyNot_4 ⟨Nat.le_of_ble_eq_true rfl, Nat.le_of_ble_eq_true rfl⟩) (fun r92 h93 => ?_)
    rcases h93 with ⟨d94, hd94, ed94, rfl⟩ | ⟨ed94, rfl⟩
    · have qd94 : k1 = d94 := Option.some.inj (ek1.symm.trans ed94)
      subst qd94
      refine lv_istore_n (lv' := [(2, .int (nI k1)), (0, .ref (q 0)), (1, .int (nI p0))]) hx hb dX4_whyNot_7 rfl hl (by decide) rfl (fun ls hl => ?_)
      refine lv_aload_n hx hb dX4_whyNot_8 rfl (lv_at hl 1 rfl) ?_
      refine lv_iload_n hx hb dX4_whyNot_9 rfl (lv_at hl 2 rfl) ?_
      refine vp_callSi (W.runV (As := [.int (nI p0)]) (rest := []) ⟨hx, hb, hml, hown, hts⟩ (k_X4_sign l D y q S gp gs kn ln sv pd p0 hPI (by omega)) (cwV 1 hts gX4_whyNot_X4_sign rfl rfl rfl hd_X4_sign ⟨Nat.le_of_ble_eq_true rfl, Nat.le_of_ble_eq_true rfl⟩) ⟨pm_ro_blind, va_recv hK hP (ci := 4) (q0 := 0) rfl rfl, pm_ro_pre hP hK⟩ rfl rfl hl.1 rfl (lv_room (Nat.le_of_ble_eq_true rfl)) dX4_whyNot_10 ⟨Nat.le_of_ble_eq_true rfl, Nat.le_of_ble_eq_true rfl⟩) (fun r95 h96 => ?_)
      rcases h96 with ⟨hs97, rfl⟩ | ⟨hs97, rfl⟩
      · have := hPI.2 p0 (by omega)
        refine lv_topi (fun x98 e99 => ?_)
        obtain rfl : x98 = nI 98 := e99.trans (congrArg nI hw)
        refine lv_lookup (off := 108) (tgt := 121) hx hb dX4_whyNot_13 (by decide) (by decide) (by decide) ?_
        refine lv_aload_n hx hb dX4_whyNot_121 rfl (lv_at hl 1 rfl) ?_
        refine lv_iload_n hx hb dX4_whyNot_122 rfl (lv_at hl 2 rfl) ?_
        refine lv_iconst (v := nI 1) hx hb dX4_whyNot_123 (by decide) ?_
        refine kx_iadd hx hb dX4_whyNot_124 ?_
        refine vp_callSi (W.runV (As := [.int (nI (p0 + 1))]) (rest := []) ⟨hx, hb, hml, hown, hts⟩ (k_X4_numberAt l D y q S gp gs kn ln sv pd (p0 + 1) hPI (by omega) ⟨_, ek1⟩) (cwV 1 hts gX4_whyNot_X4_numberAt rfl rfl rfl hd_X4_numberAt ⟨Nat.le_of_ble_eq_true rfl, Nat.le_of_ble_eq_true rfl⟩) ⟨pm_ro_blind, va_recv hK hP (ci := 4) (q0 := 0) rfl rfl, pm_ro_pre hP hK⟩ rfl rfl hl.1 rfl (lv_room (Nat.le_of_ble_eq_true rfl)) dX4_whyNot_125 ⟨Nat.le_of_ble_eq_true rfl, Nat.le_of_ble_eq_true rfl⟩) (fun r100 h101 => ?_)
        obtain rfl : r100 = nI (pm_na pd ln (p0 + 1)) := h101
        have := pm_na_le (P := pd) (ln := ln) (p := (p0 + 1))
        refine lv_iconst (v := nI 1) hx hb dX4_whyNot_128 (by decide) ?_
        refine lv_bipush (v := nI 99) hx hb dX4_whyNot_129 (by decide) ?_
        refine vp_callSi (W.runS (As := [.int (nI (pm_na pd ln (p0 + 1))), .int (nI 1), .int (nI 99)]) (rest := []) ⟨hx, hb, hml, hown, hts⟩ (k_X4_in l (nI (pm_na pd ln (p0 + 1))) (nI 1) (nI 99)) (va_cwS 3 hts gX4_whyNot_X4_in rfl rfl rfl hd_X4_in ⟨Nat.le_of_ble_eq_true rfl, Nat.le_of_ble_eq_true rfl⟩) ⟨pm_no_blind, pm_no_pre⟩ rfl rfl hl.1 rfl (lv_room (Nat.le_of_ble_eq_true rfl)) dX4_whyNot_131 ⟨Nat.le_of_ble_eq_true rfl, Nat.le_of_ble_eq_true rfl⟩) (fun r102 h103 => ?_)
        rcases (show ((nI 1 ≤ nI (pm_na pd ln (p0 + 1)) ∧ nI (pm_na pd ln (p0 + 1)) ≤ nI 99) ∧ r102 = nI 1) ∨ (¬ (nI 1 ≤ nI (pm_na pd ln (p0 + 1)) ∧ nI (pm_na pd ln (p0 + 1)) ≤ nI 99) ∧ r102 = nI 0) from h103) with ⟨hp104, rfl⟩ | ⟨hp104, rfl⟩
        · replace hp104 := (pm_in_n (by omega) (by decide) (by decide)).mp hp104
          refine lv_if_eq (tgt := 141) hx hb dX4_whyNot_134 (by decide) (fun c105 => absurd c105 (by decide)) (fun _ => ?_)
          refine lv_iconst (v := nI 0) hx hb dX4_whyNot_137 (by decide) ?_
          refine lv_goto (tgt := 143) hx hb dX4_whyNot_138 (by decide) ?_
          have O : pm_ord S pd ln p0 = pm_aBuy S (nI (pm_na pd ln (p0 + 1))) := by unfold pm_ord; rw [if_neg (by omega), if_neg (by omega), if_neg (by omega), if_pos hw]
          exact W.iret hx hb hr (fun t ht _ => ⟨_, rfl, (Or.inl ⟨by rw [O]; obtain ⟨x9, hx9, ex9⟩ := pm_buy01 hI (show pm_na pd ln (p0 + 1) < 100 by omega) (by omega); rw [ex9]; exact nI_pos' (by omega), rfl⟩), ht⟩) (fun _ h => absurd h List.not_mem_nil) dX4_whyNot_143
        · replace hp104 := mt (pm_in_n (by omega) (by decide) (by decide)).mpr hp104
          refine lv_if_eq (tgt := 141) hx hb dX4_whyNot_134 (by decide) (fun _ => ?_) (fun c106 => (c106 (by decide)).elim)
          refine lv_bipush (v := (-2)) hx hb dX4_whyNot_141 (by decide) ?_
          have O : pm_ord S pd ln p0 = pm_aBuy S (nI (pm_na pd ln (p0 + 1))) := by unfold pm_ord; rw [if_neg (by omega), if_neg (by omega), if_neg (by omega), if_pos hw]
          have E : (pm_aBuy S (nI (pm_na pd ln (p0 + 1)))).1 = -2 := by unfold pm_aBuy; rw [pm_ixn (by omega) (by decide), if_pos (by omega)]; exact congrArg Prod.fst (if_pos (by omega))
          exact W.iret hx hb hr (fun t ht _ => ⟨_, rfl, (Or.inr ⟨by rw [O, E]; exact pm_neg2, by rw [O, E]⟩), ht⟩) (fun _ h => absurd h List.not_mem_nil) dX4_whyNot_143
      · exfalso; omega
    · exact absurd (ed94.symm.trans ek1) (by simp)

theorem pm_mi3 (c : Nat) : pm_mi c < 3 := by
  unfold pm_mi
  (repeat' split) <;> decide
set_option maxHeartbeats 4000000 in
set_option maxRecDepth 100000 in
theorem k_X4_does (l : Launch) (D : va_G) (y : Nat → ClassId) (q : Nat → Nat) (S : Nat → Nat → Nat) (gp gs : Nat → Int32) (kn ln : Nat) (sv pd : Nat → Nat) (p0 e0 : Nat) (hI : pm_Inv S) (hPI : pm_PI pd ln) (hp0 : p0 ≤ 80) (hoe : pm_oe pd ln p0 = .inl e0) (hok : 0 ≤ (pm_ord S pd ln p0).1) : Met l yX4_does wsX4_does ({ frames := 6, cells := 0, slots := 0, locals := 139 } : Room) (pm_wr D (pm_ty y) [.ref (q 0), .int (nI p0)] (pm_mo y q S gp gs kn ln sv pd)) (pm_Qi D (fun (r : Int32) (_ : Unit) => r = r) (fun (_ : Unit) => pm_mo y q (pm_ord S pd ln p0).2 gp gs kn ln sv pd) (pm_mo y q S gp gs kn ln sv pd)) 0 0 (pm_ad (pm_mo y q S gp gs kn ln sv pd)) := by
  refine Met.ofW (cc := cX4_does) (maxL := 3) (ret := (some .int)) (by decide) rfl ?_
  intro p e s m args below meth c s₁ B hml hpre
  obtain ⟨rfl, hP, hK, hD0⟩ := hpre
  have hx := B.exec
  have hb := B.bytes
  have hr := B.returns
  have hts := atoms_spec (ws := wsX4_does) B.pre
  have hown : s.vm.findClass RX4 = some m.cls := findClass_of_methodNamed B.named
  have hlocks := B.notSynchronized
  have hin4 : ∀ w ∈ u_ws RX4 TX4 7, w ∈ wsX4_does := fun w h => List.mem_cons_of_mem _ (List.mem_append_right _ h)
  have hD := pm_ad_self hD0
  have hS : va_S (pm_ad (pm_mo y q S gp gs kn ln sv pd)) s.heap s.heap [] := va_S.rf
  have hP : va_P D vwCl (pm_mo y q S gp gs kn ln sv pd) s.heap := hP
  have hl := lv_entry ([.ref (q 0), .int (nI p0)]) (n := 3) (Nat.le_of_ble_eq_true rfl)
  rw [lg_entry_eq]
  generalize (lg_sl ([.ref (q 0), .int (nI p0)]) ++ List.replicate (3 - (lg_sl ([.ref (q 0), .int (nI p0)])).length) Slot.unset).toArray = ls at hl ⊢
  have hl : lv_has ls 3 [(0, .ref (q 0)), (1, .int (nI p0))] := hl
  have hln := hPI.1
  obtain ⟨hlt, hkk⟩ := pm_k_s hoe
  rcases hkk with hw | hw | hw | hw | hw | hw | hw
  · obtain ⟨⟨k1, ek1⟩, hdot, ⟨k3, ek3⟩, hend⟩ := pm_k_t hoe (by omega)
    have hk1 := (pm_dg9 ek1).1
    have hk3 := (pm_dg9 ek3).1
    refine lv_aload_n hx hb dX4_does_0 rfl (lv_at hl 0 rfl) ?_
    refine lv_iload_n hx hb dX4_does_1 rfl (lv_at hl 1 rfl) ?_
    refine lv_iconst (v := nI 1) hx hb dX4_does_2 (by decide) ?_
    refine kx_iadd hx hb dX4_does_3 ?_
    refine vp_callSi (W.runV (As := [.int (nI (p0 + 1))]) (rest := []) ⟨hx, hb, hml, hown, hts⟩ (k_X4_digit l D y q S gp gs kn ln sv pd (p0 + 1) hPI (by omega)) (cwV 1 hts gX4_does_X4_digit rfl rfl rfl hd_X4_digit ⟨Nat.le_of_ble_eq_true rfl, Nat.le_of_ble_eq_true rfl⟩) ⟨pm_ro_blind, va_recv hK hP (ci := 4) (q0 := 0) rfl rfl, pm_ro_pre hP hK⟩ rfl rfl hl.1 rfl (lv_room (Nat.le_of_ble_eq_true rfl)) dX4_does_4 ⟨Nat.le_of_ble_eq_true rfl, Nat.le_of_ble_eq_true rfl⟩) (fun r1 h2 => ?_)
    rcases h2 with ⟨d3, hd3, ed3, rfl⟩ | ⟨ed3, rfl⟩
    · have qd3 : k1 = d3 := Option.some.inj (ek1.symm.trans ed3)
      subst qd3
      refine lv_istore_n (lv' := [(2, .int (nI k1)), (0, .ref (q 0)), (1, .int (nI p0))]) hx hb dX4_does_7 rfl hl (by decide) rfl (fun ls hl => ?_)
      refine lv_aload_n hx hb dX4_does_8 rfl (lv_at hl 1 rfl) ?_
      refine lv_iload_n hx hb dX4_does_9 rfl (lv_at hl 2 rfl) ?_
      refine vp_callSi (W.runV (As := [.int (nI p0)]) (rest := []) ⟨hx, hb, hml, hown, hts⟩ (k_X4_sign l D y q S gp gs kn ln sv pd p0 hPI (by omega)) (cwV 1 hts gX4_does_X4_sign rfl rfl rfl hd_X4_sign ⟨Nat.le_of_ble_eq_true rfl, Nat.le_of_ble_eq_true rfl⟩) ⟨pm_ro_blind, va_recv hK hP (ci := 4) (q0 := 0) rfl rfl, pm_ro_pre hP hK⟩ rfl rfl hl.1 rfl (lv_room (Nat.le_of_ble_eq_true rfl)) dX4_does_10 ⟨Nat.le_of_ble_eq_true rfl, Nat.le_of_ble_eq_true rfl⟩) (fun r4 h5 => ?_)
      rcases h5 with ⟨hs6, rfl⟩ | ⟨hs6, rfl⟩
      · have := hPI.2 p0 (by omega)
        refine lv_topi (fun x7 e8 => ?_)
        obtain rfl : x7 = nI 116 := e8.trans (congrArg nI hw)
        refine lv_lookup (off := 105) (tgt := 118) hx hb dX4_does_13 (by decide) (by decide) (by decide) ?_
        refine lv_aload_n hx hb dX4_does_118 rfl (lv_at hl 1 rfl) ?_
        refine lv_iload_n hx hb dX4_does_119 rfl (lv_at hl 0 rfl) ?_
        refine lv_aload_n hx hb dX4_does_120 rfl (lv_at hl 1 rfl) ?_
        refine lv_iload_n hx hb dX4_does_121 rfl (lv_at hl 2 rfl) ?_
        refine lv_iconst (v := nI 3) hx hb dX4_does_122 (by decide) ?_
        refine kx_iadd hx hb dX4_does_123 ?_
        refine vp_callSi (W.runV (As := [.int (nI (p0 + 3))]) (rest := [.int (nI k1), .ref (q 0)]) ⟨hx, hb, hml, hown, hts⟩ (k_X4_numberAt l D y q S gp gs kn ln sv pd (p0 + 3) hPI (by omega) ⟨_, ek3⟩) (cwV 1 hts gX4_does_X4_numberAt rfl rfl rfl hd_X4_numberAt ⟨Nat.le_of_ble_eq_true rfl, Nat.le_of_ble_eq_true rfl⟩) ⟨pm_ro_blind, va_recv hK hP (ci := 4) (q0 := 0) rfl rfl, pm_ro_pre hP hK⟩ rfl rfl hl.1 rfl (lv_room (Nat.le_of_ble_eq_true rfl)) dX4_does_124 ⟨Nat.le_of_ble_eq_true rfl, Nat.le_of_ble_eq_true rfl⟩) (fun r9 h10 => ?_)
        obtain rfl : r9 = nI (pm_na pd ln (p0 + 3)) := h10
        have := pm_na_le (P := pd) (ln := ln) (p := (p0 + 3))
        refine lv_aload_n hx hb dX4_does_127 rfl (lv_at hl 1 rfl) ?_
        refine lv_iload_n hx hb dX4_does_128 rfl (lv_at hl 2 rfl) ?_
        refine vp_callSi (W.runV (As := [.int (nI p0)]) (rest := [.int (nI (pm_na pd ln (p0 + 3))), .int (nI k1), .ref (q 0)]) ⟨hx, hb, hml, hown, hts⟩ (k_X4_markIn l D y q S gp gs kn ln sv pd p0 hPI (by omega)) (cwV 1 hts gX4_does_X4_markIn rfl rfl rfl hd_X4_markIn ⟨Nat.le_of_ble_eq_true rfl, Nat.le_of_ble_eq_true rfl⟩) ⟨pm_ro_blind, va_recv hK hP (ci := 4) (q0 := 0) rfl rfl, pm_ro_pre hP hK⟩ rfl rfl hl.1 rfl (lv_room (Nat.le_of_ble_eq_true rfl)) dX4_does_129 ⟨Nat.le_of_ble_eq_true rfl, Nat.le_of_ble_eq_true rfl⟩) (fun r11 h12 => ?_)
        obtain rfl : r11 = nI (pm_mi (pd p0)) := h12
        have := pm_mi3 (pd p0)
        have O : pm_ord S pd ln p0 = pm_aMark S (nI k1) (nI (pm_na pd ln (p0 + 3))) (nI (pm_mi (pd p0))) := by unfold pm_ord pm_d; rw [if_neg (by omega), if_neg (by omega), if_neg (by omega), if_neg (by omega), ek1]; rfl
        rw [O] at hok
        have := pm_mi3 (pd p0)
        obtain ⟨g1, g2, g3, E⟩ := pm_mark_ok (by omega) (by omega) (by omega) hok
        refine va_callv (va_runV (As := [.int (nI k1), .int (nI (pm_na pd ln (p0 + 3))), .int (nI (pm_mi (pd p0)))]) (rest := []) ⟨hx, hb, hml, hown, hts⟩ (k_X4_marks l D y q S gp gs kn ln sv pd k1 (pm_na pd ln (p0 + 3)) (pm_mi (pd p0)) (hI.okm (pm_na pd ln (p0 + 3)) (by omega)) (by omega) (by omega) (by omega)) (cwV 3 hts gX4_does_X4_marks rfl rfl rfl hd_X4_marks ⟨Nat.le_of_ble_eq_true rfl, Nat.le_of_ble_eq_true rfl⟩) ⟨pm_wr_blind, va_recv hK hP (ci := 4) (q0 := 0) rfl rfl, pm_wr_pre hP hK hD⟩ rfl rfl hl.1 rfl (lv_room (Nat.le_of_ble_eq_true rfl)) dX4_does_132 ⟨Nat.le_of_ble_eq_true rfl, Nat.le_of_ble_eq_true rfl⟩) hS (fun q _ h9 => (pm_ad_all hD) q h9) (pm_ad_all hD) (fun u19 t15 H1 locs ht16 _ h14 hB17 _ hk18 hS => ?_)
        obtain ⟨hP, hD⟩ := pm_all (D := D) (cl := vwCl) (H1 := H1) hD (w' := pm_mo y q (pm_st S 4 (pm_na pd ln (p0 + 3)) (pm_sm (S 4 (pm_na pd ln (p0 + 3))) k1 (pm_mi (pd p0)))) gp gs kn ln sv pd) (by rw [← ht16]; exact hB17) (pm_mo_ad _ _ _ _ _ _ _ _ _ _ _ _ _ _ _ _)
        generalize H1 = H at hP hS ⊢
        refine lv_iconst (v := nI 0) hx hb dX4_does_135 (by decide) ?_
        exact W.iret hx hb hr (fun t ht _ => ⟨⟨_, (), rfl, rfl, (by show va_P D vwCl (pm_mo y q (pm_ord S pd ln p0).2 gp gs kn ln sv pd) t.heap; rw [ht]; exact (by rw [O, E]; exact hP))⟩, hS.F ht⟩) hS.2.2 dX4_does_136
      · exfalso; omega
    · exact absurd (ed3.symm.trans ek1) (by simp)
  · obtain ⟨⟨k1, ek1⟩, hdot, ⟨k3, ek3⟩, hend⟩ := pm_k_t hoe (by omega)
    have hk1 := (pm_dg9 ek1).1
    have hk3 := (pm_dg9 ek3).1
    refine lv_aload_n hx hb dX4_does_0 rfl (lv_at hl 0 rfl) ?_
    refine lv_iload_n hx hb dX4_does_1 rfl (lv_at hl 1 rfl) ?_
    refine lv_iconst (v := nI 1) hx hb dX4_does_2 (by decide) ?_
    refine kx_iadd hx hb dX4_does_3 ?_
    refine vp_callSi (W.runV (As := [.int (nI (p0 + 1))]) (rest := []) ⟨hx, hb, hml, hown, hts⟩ (k_X4_digit l D y q S gp gs kn ln sv pd (p0 + 1) hPI (by omega)) (cwV 1 hts gX4_does_X4_digit rfl rfl rfl hd_X4_digit ⟨Nat.le_of_ble_eq_true rfl, Nat.le_of_ble_eq_true rfl⟩) ⟨pm_ro_blind, va_recv hK hP (ci := 4) (q0 := 0) rfl rfl, pm_ro_pre hP hK⟩ rfl rfl hl.1 rfl (lv_room (Nat.le_of_ble_eq_true rfl)) dX4_does_4 ⟨Nat.le_of_ble_eq_true rfl, Nat.le_of_ble_eq_true rfl⟩) (fun r20 h21 => ?_)
    rcases h21 with ⟨d22, hd22, ed22, rfl⟩ | ⟨ed22, rfl⟩
    · have qd22 : k1 = d22 := Option.some.inj (ek1.symm.trans ed22)
      subst qd22
      refine lv_istore_n (lv' := [(2, .int (nI k1)), (0, .ref (q 0)), (1, .int (nI p0))]) hx hb dX4_does_7 rfl hl (by decide) rfl (fun ls hl => ?_)
      refine lv_aload_n hx hb dX4_does_8 rfl (lv_at hl 1 rfl) ?_
      refine lv_iload_n hx hb dX4_does_9 rfl (lv_at hl 2 rfl) ?_
      refine vp_callSi (W.runV (As := [.int (nI p0)]) (rest := []) ⟨hx, hb, hml, hown, hts⟩ (k_X4_sign l D y q S gp gs kn ln sv pd p0 hPI (by omega)) (cwV 1 hts gX4_does_X4_sign rfl rfl rfl hd_X4_sign ⟨Nat.le_of_ble_eq_true rfl, Nat.le_of_ble_eq_true rfl⟩) ⟨pm_ro_blind, va_recv hK hP (ci := 4) (q0 := 0) rfl rfl, pm_ro_pre hP hK⟩ rfl rfl hl.1 rfl (lv_room (Nat.le_of_ble_eq_true rfl)) dX4_does_10 ⟨Nat.le_of_ble_eq_true rfl, Nat.le_of_ble_eq_true rfl⟩) (fun r23 h24 => ?_)
      rcases h24 with ⟨hs25, rfl⟩ | ⟨hs25, rfl⟩
      · have := hPI.2 p0 (by omega)
        refine lv_topi (fun x26 e27 => ?_)
        obtain rfl : x26 = nI 120 := e27.trans (congrArg nI hw)
        refine lv_lookup (off := 105) (tgt := 118) hx hb dX4_does_13 (by decide) (by decide) (by decide) ?_
        refine lv_aload_n hx hb dX4_does_118 rfl (lv_at hl 1 rfl) ?_
        refine lv_iload_n hx hb dX4_does_119 rfl (lv_at hl 0 rfl) ?_
        refine lv_aload_n hx hb dX4_does_120 rfl (lv_at hl 1 rfl) ?_
        refine lv_iload_n hx hb dX4_does_121 rfl (lv_at hl 2 rfl) ?_
        refine lv_iconst (v := nI 3) hx hb dX4_does_122 (by decide) ?_
        refine kx_iadd hx hb dX4_does_123 ?_
        refine vp_callSi (W.runV (As := [.int (nI (p0 + 3))]) (rest := [.int (nI k1), .ref (q 0)]) ⟨hx, hb, hml, hown, hts⟩ (k_X4_numberAt l D y q S gp gs kn ln sv pd (p0 + 3) hPI (by omega) ⟨_, ek3⟩) (cwV 1 hts gX4_does_X4_numberAt rfl rfl rfl hd_X4_numberAt ⟨Nat.le_of_ble_eq_true rfl, Nat.le_of_ble_eq_true rfl⟩) ⟨pm_ro_blind, va_recv hK hP (ci := 4) (q0 := 0) rfl rfl, pm_ro_pre hP hK⟩ rfl rfl hl.1 rfl (lv_room (Nat.le_of_ble_eq_true rfl)) dX4_does_124 ⟨Nat.le_of_ble_eq_true rfl, Nat.le_of_ble_eq_true rfl⟩) (fun r28 h29 => ?_)
        obtain rfl : r28 = nI (pm_na pd ln (p0 + 3)) := h29
        have := pm_na_le (P := pd) (ln := ln) (p := (p0 + 3))
        refine lv_aload_n hx hb dX4_does_127 rfl (lv_at hl 1 rfl) ?_
        refine lv_iload_n hx hb dX4_does_128 rfl (lv_at hl 2 rfl) ?_
        refine vp_callSi (W.runV (As := [.int (nI p0)]) (rest := [.int (nI (pm_na pd ln (p0 + 3))), .int (nI k1), .ref (q 0)]) ⟨hx, hb, hml, hown, hts⟩ (k_X4_markIn l D y q S gp gs kn ln sv pd p0 hPI (by omega)) (cwV 1 hts gX4_does_X4_markIn rfl rfl rfl hd_X4_markIn ⟨Nat.le_of_ble_eq_true rfl, Nat.le_of_ble_eq_true rfl⟩) ⟨pm_ro_blind, va_recv hK hP (ci := 4) (q0 := 0) rfl rfl, pm_ro_pre hP hK⟩ rfl rfl hl.1 rfl (lv_room (Nat.le_of_ble_eq_true rfl)) dX4_does_129 ⟨Nat.le_of_ble_eq_true rfl, Nat.le_of_ble_eq_true rfl⟩) (fun r30 h31 => ?_)
        obtain rfl : r30 = nI (pm_mi (pd p0)) := h31
        have := pm_mi3 (pd p0)
        have O : pm_ord S pd ln p0 = pm_aMark S (nI k1) (nI (pm_na pd ln (p0 + 3))) (nI (pm_mi (pd p0))) := by unfold pm_ord pm_d; rw [if_neg (by omega), if_neg (by omega), if_neg (by omega), if_neg (by omega), ek1]; rfl
        rw [O] at hok
        have := pm_mi3 (pd p0)
        obtain ⟨g1, g2, g3, E⟩ := pm_mark_ok (by omega) (by omega) (by omega) hok
        refine va_callv (va_runV (As := [.int (nI k1), .int (nI (pm_na pd ln (p0 + 3))), .int (nI (pm_mi (pd p0)))]) (rest := []) ⟨hx, hb, hml, hown, hts⟩ (k_X4_marks l D y q S gp gs kn ln sv pd k1 (pm_na pd ln (p0 + 3)) (pm_mi (pd p0)) (hI.okm (pm_na pd ln (p0 + 3)) (by omega)) (by omega) (by omega) (by omega)) (cwV 3 hts gX4_does_X4_marks rfl rfl rfl hd_X4_marks ⟨Nat.le_of_ble_eq_true rfl, Nat.le_of_ble_eq_true rfl⟩) ⟨pm_wr_blind, va_recv hK hP (ci := 4) (q0 := 0) rfl rfl, pm_wr_pre hP hK hD⟩ rfl rfl hl.1 rfl (lv_room (Nat.le_of_ble_eq_true rfl)) dX4_does_132 ⟨Nat.le_of_ble_eq_true rfl, Nat.le_of_ble_eq_true rfl⟩) hS (fun q _ h9 => (pm_ad_all hD) q h9) (pm_ad_all hD) (fun u38 t34 H1 locs ht35 _ h33 hB36 _ hk37 hS => ?_)
        obtain ⟨hP, hD⟩ := pm_all (D := D) (cl := vwCl) (H1 := H1) hD (w' := pm_mo y q (pm_st S 4 (pm_na pd ln (p0 + 3)) (pm_sm (S 4 (pm_na pd ln (p0 + 3))) k1 (pm_mi (pd p0)))) gp gs kn ln sv pd) (by rw [← ht35]; exact hB36) (pm_mo_ad _ _ _ _ _ _ _ _ _ _ _ _ _ _ _ _)
        generalize H1 = H at hP hS ⊢
        refine lv_iconst (v := nI 0) hx hb dX4_does_135 (by decide) ?_
        exact W.iret hx hb hr (fun t ht _ => ⟨⟨_, (), rfl, rfl, (by show va_P D vwCl (pm_mo y q (pm_ord S pd ln p0).2 gp gs kn ln sv pd) t.heap; rw [ht]; exact (by rw [O, E]; exact hP))⟩, hS.F ht⟩) hS.2.2 dX4_does_136
      · exfalso; omega
    · exact absurd (ed22.symm.trans ek1) (by simp)
  · obtain ⟨⟨k1, ek1⟩, hdot, ⟨k3, ek3⟩, hend⟩ := pm_k_t hoe (by omega)
    have hk1 := (pm_dg9 ek1).1
    have hk3 := (pm_dg9 ek3).1
    refine lv_aload_n hx hb dX4_does_0 rfl (lv_at hl 0 rfl) ?_
    refine lv_iload_n hx hb dX4_does_1 rfl (lv_at hl 1 rfl) ?_
    refine lv_iconst (v := nI 1) hx hb dX4_does_2 (by decide) ?_
    refine kx_iadd hx hb dX4_does_3 ?_
    refine vp_callSi (W.runV (As := [.int (nI (p0 + 1))]) (rest := []) ⟨hx, hb, hml, hown, hts⟩ (k_X4_digit l D y q S gp gs kn ln sv pd (p0 + 1) hPI (by omega)) (cwV 1 hts gX4_does_X4_digit rfl rfl rfl hd_X4_digit ⟨Nat.le_of_ble_eq_true rfl, Nat.le_of_ble_eq_true rfl⟩) ⟨pm_ro_blind, va_recv hK hP (ci := 4) (q0 := 0) rfl rfl, pm_ro_pre hP hK⟩ rfl rfl hl.1 rfl (lv_room (Nat.le_of_ble_eq_true rfl)) dX4_does_4 ⟨Nat.le_of_ble_eq_true rfl, Nat.le_of_ble_eq_true rfl⟩) (fun r39 h40 => ?_)
    rcases h40 with ⟨d41, hd41, ed41, rfl⟩ | ⟨ed41, rfl⟩
    · have qd41 : k1 = d41 := Option.some.inj (ek1.symm.trans ed41)
      subst qd41
      refine lv_istore_n (lv' := [(2, .int (nI k1)), (0, .ref (q 0)), (1, .int (nI p0))]) hx hb dX4_does_7 rfl hl (by decide) rfl (fun ls hl => ?_)
      refine lv_aload_n hx hb dX4_does_8 rfl (lv_at hl 1 rfl) ?_
      refine lv_iload_n hx hb dX4_does_9 rfl (lv_at hl 2 rfl) ?_
      refine vp_callSi (W.runV (As := [.int (nI p0)]) (rest := []) ⟨hx, hb, hml, hown, hts⟩ (k_X4_sign l D y q S gp gs kn ln sv pd p0 hPI (by omega)) (cwV 1 hts gX4_does_X4_sign rfl rfl rfl hd_X4_sign ⟨Nat.le_of_ble_eq_true rfl, Nat.le_of_ble_eq_true rfl⟩) ⟨pm_ro_blind, va_recv hK hP (ci := 4) (q0 := 0) rfl rfl, pm_ro_pre hP hK⟩ rfl rfl hl.1 rfl (lv_room (Nat.le_of_ble_eq_true rfl)) dX4_does_10 ⟨Nat.le_of_ble_eq_true rfl, Nat.le_of_ble_eq_true rfl⟩) (fun r42 h43 => ?_)
      rcases h43 with ⟨hs44, rfl⟩ | ⟨hs44, rfl⟩
      · have := hPI.2 p0 (by omega)
        refine lv_topi (fun x45 e46 => ?_)
        obtain rfl : x45 = nI 111 := e46.trans (congrArg nI hw)
        refine lv_lookup (off := 105) (tgt := 118) hx hb dX4_does_13 (by decide) (by decide) (by decide) ?_
        refine lv_aload_n hx hb dX4_does_118 rfl (lv_at hl 1 rfl) ?_
        refine lv_iload_n hx hb dX4_does_119 rfl (lv_at hl 0 rfl) ?_
        refine lv_aload_n hx hb dX4_does_120 rfl (lv_at hl 1 rfl) ?_
        refine lv_iload_n hx hb dX4_does_121 rfl (lv_at hl 2 rfl) ?_
        refine lv_iconst (v := nI 3) hx hb dX4_does_122 (by decide) ?_
        refine kx_iadd hx hb dX4_does_123 ?_
        refine vp_callSi (W.runV (As := [.int (nI (p0 + 3))]) (rest := [.int (nI k1), .ref (q 0)]) ⟨hx, hb, hml, hown, hts⟩ (k_X4_numberAt l D y q S gp gs kn ln sv pd (p0 + 3) hPI (by omega) ⟨_, ek3⟩) (cwV 1 hts gX4_does_X4_numberAt rfl rfl rfl hd_X4_numberAt ⟨Nat.le_of_ble_eq_true rfl, Nat.le_of_ble_eq_true rfl⟩) ⟨pm_ro_blind, va_recv hK hP (ci := 4) (q0 := 0) rfl rfl, pm_ro_pre hP hK⟩ rfl rfl hl.1 rfl (lv_room (Nat.le_of_ble_eq_true rfl)) dX4_does_124 ⟨Nat.le_of_ble_eq_true rfl, Nat.le_of_ble_eq_true rfl⟩) (fun r47 h48 => ?_)
        obtain rfl : r47 = nI (pm_na pd ln (p0 + 3)) := h48
        have := pm_na_le (P := pd) (ln := ln) (p := (p0 + 3))
        refine lv_aload_n hx hb dX4_does_127 rfl (lv_at hl 1 rfl) ?_
        refine lv_iload_n hx hb dX4_does_128 rfl (lv_at hl 2 rfl) ?_
        refine vp_callSi (W.runV (As := [.int (nI p0)]) (rest := [.int (nI (pm_na pd ln (p0 + 3))), .int (nI k1), .ref (q 0)]) ⟨hx, hb, hml, hown, hts⟩ (k_X4_markIn l D y q S gp gs kn ln sv pd p0 hPI (by omega)) (cwV 1 hts gX4_does_X4_markIn rfl rfl rfl hd_X4_markIn ⟨Nat.le_of_ble_eq_true rfl, Nat.le_of_ble_eq_true rfl⟩) ⟨pm_ro_blind, va_recv hK hP (ci := 4) (q0 := 0) rfl rfl, pm_ro_pre hP hK⟩ rfl rfl hl.1 rfl (lv_room (Nat.le_of_ble_eq_true rfl)) dX4_does_129 ⟨Nat.le_of_ble_eq_true rfl, Nat.le_of_ble_eq_true rfl⟩) (fun r49 h50 => ?_)
        obtain rfl : r49 = nI (pm_mi (pd p0)) := h50
        have := pm_mi3 (pd p0)
        have O : pm_ord S pd ln p0 = pm_aMark S (nI k1) (nI (pm_na pd ln (p0 + 3))) (nI (pm_mi (pd p0))) := by unfold pm_ord pm_d; rw [if_neg (by omega), if_neg (by omega), if_neg (by omega), if_neg (by omega), ek1]; rfl
        rw [O] at hok
        have := pm_mi3 (pd p0)
        obtain ⟨g1, g2, g3, E⟩ := pm_mark_ok (by omega) (by omega) (by omega) hok
        refine va_callv (va_runV (As := [.int (nI k1), .int (nI (pm_na pd ln (p0 + 3))), .int (nI (pm_mi (pd p0)))]) (rest := []) ⟨hx, hb, hml, hown, hts⟩ (k_X4_marks l D y q S gp gs kn ln sv pd k1 (pm_na pd ln (p0 + 3)) (pm_mi (pd p0)) (hI.okm (pm_na pd ln (p0 + 3)) (by omega)) (by omega) (by omega) (by omega)) (cwV 3 hts gX4_does_X4_marks rfl rfl rfl hd_X4_marks ⟨Nat.le_of_ble_eq_true rfl, Nat.le_of_ble_eq_true rfl⟩) ⟨pm_wr_blind, va_recv hK hP (ci := 4) (q0 := 0) rfl rfl, pm_wr_pre hP hK hD⟩ rfl rfl hl.1 rfl (lv_room (Nat.le_of_ble_eq_true rfl)) dX4_does_132 ⟨Nat.le_of_ble_eq_true rfl, Nat.le_of_ble_eq_true rfl⟩) hS (fun q _ h9 => (pm_ad_all hD) q h9) (pm_ad_all hD) (fun u57 t53 H1 locs ht54 _ h52 hB55 _ hk56 hS => ?_)
        obtain ⟨hP, hD⟩ := pm_all (D := D) (cl := vwCl) (H1 := H1) hD (w' := pm_mo y q (pm_st S 4 (pm_na pd ln (p0 + 3)) (pm_sm (S 4 (pm_na pd ln (p0 + 3))) k1 (pm_mi (pd p0)))) gp gs kn ln sv pd) (by rw [← ht54]; exact hB55) (pm_mo_ad _ _ _ _ _ _ _ _ _ _ _ _ _ _ _ _)
        generalize H1 = H at hP hS ⊢
        refine lv_iconst (v := nI 0) hx hb dX4_does_135 (by decide) ?_
        exact W.iret hx hb hr (fun t ht _ => ⟨⟨_, (), rfl, rfl, (by show va_P D vwCl (pm_mo y q (pm_ord S pd ln p0).2 gp gs kn ln sv pd) t.heap; rw [ht]; exact (by rw [O, E]; exact hP))⟩, hS.F ht⟩) hS.2.2 dX4_does_136
      · exfalso; omega
    · exact absurd (ed41.symm.trans ek1) (by simp)
  · obtain ⟨⟨k1, ek1⟩, ⟨k2, ek2⟩, hdot, ⟨k4, ek4⟩, hend⟩ := pm_k_a hoe hw
    have hk1 := (pm_dg9 ek1).1
    have hk2 := (pm_dg9 ek2).1
    have hk4 := (pm_dg9 ek4).1
    refine lv_aload_n hx hb dX4_does_0 rfl (lv_at hl 0 rfl) ?_
    refine lv_iload_n hx hb dX4_does_1 rfl (lv_at hl 1 rfl) ?_
    refine lv_iconst (v := nI 1) hx hb dX4_does_2 (by decide) ?_
    refine kx_iadd hx hb dX4_does_3 ?_
    refine vp_callSi (W.runV (As := [.int (nI (p0 + 1))]) (rest := []) ⟨hx, hb, hml, hown, hts⟩ (k_X4_digit l D y q S gp gs kn ln sv pd (p0 + 1) hPI (by omega)) (cwV 1 hts gX4_does_X4_digit rfl rfl rfl hd_X4_digit ⟨Nat.le_of_ble_eq_true rfl, Nat.le_of_ble_eq_true rfl⟩) ⟨pm_ro_blind, va_recv hK hP (ci := 4) (q0 := 0) rfl rfl, pm_ro_pre hP hK⟩ rfl rfl hl.1 rfl (lv_room (Nat.le_of_ble_eq_true rfl)) dX4_does_4 ⟨Nat.le_of_ble_eq_true rfl, Nat.le_of_ble_eq_true rfl⟩) (fun r58 h59 => ?_)
    rcases h59 with ⟨d60, hd60, ed60, rfl⟩ | ⟨ed60, rfl⟩
    · have qd60 : k1 = d60 := Option.some.inj (ek1.symm.trans ed60)
      subst qd60
      refine lv_istore_n (lv' := [(2, .int (nI k1)), (0, .ref (q 0)), (1, .int (nI p0))]) hx hb dX4_does_7 rfl hl (by decide) rfl (fun ls hl => ?_)
      refine lv_aload_n hx hb dX4_does_8 rfl (lv_at hl 1 rfl) ?_
      refine lv_iload_n hx hb dX4_does_9 rfl (lv_at hl 2 rfl) ?_
      refine vp_callSi (W.runV (As := [.int (nI p0)]) (rest := []) ⟨hx, hb, hml, hown, hts⟩ (k_X4_sign l D y q S gp gs kn ln sv pd p0 hPI (by omega)) (cwV 1 hts gX4_does_X4_sign rfl rfl rfl hd_X4_sign ⟨Nat.le_of_ble_eq_true rfl, Nat.le_of_ble_eq_true rfl⟩) ⟨pm_ro_blind, va_recv hK hP (ci := 4) (q0 := 0) rfl rfl, pm_ro_pre hP hK⟩ rfl rfl hl.1 rfl (lv_room (Nat.le_of_ble_eq_true rfl)) dX4_does_10 ⟨Nat.le_of_ble_eq_true rfl, Nat.le_of_ble_eq_true rfl⟩) (fun r61 h62 => ?_)
      rcases h62 with ⟨hs63, rfl⟩ | ⟨hs63, rfl⟩
      · have := hPI.2 p0 (by omega)
        refine lv_topi (fun x64 e65 => ?_)
        obtain rfl : x64 = nI 97 := e65.trans (congrArg nI hw)
        refine lv_lookup (off := 43) (tgt := 56) hx hb dX4_does_13 (by decide) (by decide) (by decide) ?_
        refine lv_aload_n hx hb dX4_does_56 rfl (lv_at hl 1 rfl) ?_
        refine lv_iload_n hx hb dX4_does_57 rfl (lv_at hl 0 rfl) ?_
        refine lv_aload_n hx hb dX4_does_58 rfl (lv_at hl 1 rfl) ?_
        refine lv_iload_n hx hb dX4_does_59 rfl (lv_at hl 2 rfl) ?_
        refine lv_iconst (v := nI 2) hx hb dX4_does_60 (by decide) ?_
        refine kx_iadd hx hb dX4_does_61 ?_
        refine vp_callSi (W.runV (As := [.int (nI (p0 + 2))]) (rest := [.int (nI k1), .ref (q 0)]) ⟨hx, hb, hml, hown, hts⟩ (k_X4_digit l D y q S gp gs kn ln sv pd (p0 + 2) hPI (by omega)) (cwV 1 hts gX4_does_X4_digit rfl rfl rfl hd_X4_digit ⟨Nat.le_of_ble_eq_true rfl, Nat.le_of_ble_eq_true rfl⟩) ⟨pm_ro_blind, va_recv hK hP (ci := 4) (q0 := 0) rfl rfl, pm_ro_pre hP hK⟩ rfl rfl hl.1 rfl (lv_room (Nat.le_of_ble_eq_true rfl)) dX4_does_62 ⟨Nat.le_of_ble_eq_true rfl, Nat.le_of_ble_eq_true rfl⟩) (fun r66 h67 => ?_)
        rcases h67 with ⟨d68, hd68, ed68, rfl⟩ | ⟨ed68, rfl⟩
        · have qd68 : k2 = d68 := Option.some.inj (ek2.symm.trans ed68)
          subst qd68
          refine lv_aload_n hx hb dX4_does_65 rfl (lv_at hl 1 rfl) ?_
          refine lv_iload_n hx hb dX4_does_66 rfl (lv_at hl 2 rfl) ?_
          refine lv_iconst (v := nI 4) hx hb dX4_does_67 (by decide) ?_
          refine kx_iadd hx hb dX4_does_68 ?_
          refine vp_callSi (W.runV (As := [.int (nI (p0 + 4))]) (rest := [.int (nI k2), .int (nI k1), .ref (q 0)]) ⟨hx, hb, hml, hown, hts⟩ (k_X4_numberAt l D y q S gp gs kn ln sv pd (p0 + 4) hPI (by omega) ⟨_, ek4⟩) (cwV 1 hts gX4_does_X4_numberAt rfl rfl rfl hd_X4_numberAt ⟨Nat.le_of_ble_eq_true rfl, Nat.le_of_ble_eq_true rfl⟩) ⟨pm_ro_blind, va_recv hK hP (ci := 4) (q0 := 0) rfl rfl, pm_ro_pre hP hK⟩ rfl rfl hl.1 rfl (lv_room (Nat.le_of_ble_eq_true rfl)) dX4_does_69 ⟨Nat.le_of_ble_eq_true rfl, Nat.le_of_ble_eq_true rfl⟩) (fun r69 h70 => ?_)
          obtain rfl : r69 = nI (pm_na pd ln (p0 + 4)) := h70
          have := pm_na_le (P := pd) (ln := ln) (p := (p0 + 4))
          have O : pm_ord S pd ln p0 = pm_aArgue S (nI k1) (nI k2) (nI (pm_na pd ln (p0 + 4))) := by unfold pm_ord pm_d; rw [if_pos hw, ek1, ek2]; rfl
          rw [O] at hok
          obtain ⟨g1, g2, g3, g4, g5, g6⟩ := pm_argue_ok (by omega) (by omega) (by omega) hok
          refine va_calli (va_runV (As := [.int (nI k1), .int (nI k2), .int (nI (pm_na pd ln (p0 + 4)))]) (rest := []) ⟨hx, hb, hml, hown, hts⟩ (k_X4_argues l D y q S gp gs kn ln sv pd k1 k2 (pm_na pd ln (p0 + 4)) hI (by omega) (by omega) (by omega) (by assumption) (by assumption) (by assumption)) (cwV 3 hts gX4_does_X4_argues rfl rfl rfl hd_X4_argues ⟨Nat.le_of_ble_eq_true rfl, Nat.le_of_ble_eq_true rfl⟩) ⟨pm_wr_blind, va_recv hK hP (ci := 4) (q0 := 0) rfl rfl, pm_wr_pre hP hK hD⟩ rfl rfl hl.1 rfl (lv_room (Nat.le_of_ble_eq_true rfl)) dX4_does_72 ⟨Nat.le_of_ble_eq_true rfl, Nat.le_of_ble_eq_true rfl⟩) hS (fun q _ h9 => (pm_ad_all hD) q h9) (pm_ad_all hD) (fun r71 u77 t73 H1 locs ht74 _ h72 hB75 _ hk76 hS => ?_)
          obtain ⟨hP, hD⟩ := pm_all (D := D) (cl := vwCl) (H1 := H1) hD (w' := pm_mo y q ((pm_aArgue S (nI k1) (nI k2) (nI (pm_na pd ln (p0 + 4)))).2) gp gs kn ln sv pd) (by rw [← ht74]; exact hB75) (pm_mo_ad _ _ _ _ _ _ _ _ _ _ _ _ _ _ _ _)
          generalize H1 = H at hP hS ⊢
          obtain rfl : r71 = (pm_aArgue S (nI k1) (nI k2) (nI (pm_na pd ln (p0 + 4)))).1 := h72
          exact W.iret hx hb hr (fun t ht _ => ⟨⟨_, (), rfl, rfl, (by show va_P D vwCl (pm_mo y q (pm_ord S pd ln p0).2 gp gs kn ln sv pd) t.heap; rw [ht]; exact (by rw [O]; exact hP))⟩, hS.F ht⟩) hS.2.2 dX4_does_75
        · exact absurd (ed68.symm.trans ek2) (by simp)
      · exfalso; omega
    · exact absurd (ed60.symm.trans ek1) (by simp)
  · skip
    refine lv_aload_n hx hb dX4_does_0 rfl (lv_at hl 0 rfl) ?_
    refine lv_iload_n hx hb dX4_does_1 rfl (lv_at hl 1 rfl) ?_
    refine lv_iconst (v := nI 1) hx hb dX4_does_2 (by decide) ?_
    refine kx_iadd hx hb dX4_does_3 ?_
    refine vp_callSi (W.runV (As := [.int (nI (p0 + 1))]) (rest := []) ⟨hx, hb, hml, hown, hts⟩ (k_X4_digit l D y q S gp gs kn ln sv pd (p0 + 1) hPI (by omega)) (cwV 1 hts gX4_does_X4_digit rfl rfl rfl hd_X4_digit ⟨Nat.le_of_ble_eq_true rfl, Nat.le_of_ble_eq_true rfl⟩) ⟨pm_ro_blind, va_recv hK hP (ci := 4) (q0 := 0) rfl rfl, pm_ro_pre hP hK⟩ rfl rfl hl.1 rfl (lv_room (Nat.le_of_ble_eq_true rfl)) dX4_does_4 ⟨Nat.le_of_ble_eq_true rfl, Nat.le_of_ble_eq_true rfl⟩) (fun r78 h79 => ?_)
    rcases h79 with ⟨d80, hd80, ed80, rfl⟩ | ⟨ed80, rfl⟩
    · have := (pm_dg9 ed80).2
      refine lv_istore_n (lv' := [(2, .int (nI d80)), (0, .ref (q 0)), (1, .int (nI p0))]) hx hb dX4_does_7 rfl hl (by decide) rfl (fun ls hl => ?_)
      refine lv_aload_n hx hb dX4_does_8 rfl (lv_at hl 1 rfl) ?_
      refine lv_iload_n hx hb dX4_does_9 rfl (lv_at hl 2 rfl) ?_
      refine vp_callSi (W.runV (As := [.int (nI p0)]) (rest := []) ⟨hx, hb, hml, hown, hts⟩ (k_X4_sign l D y q S gp gs kn ln sv pd p0 hPI (by omega)) (cwV 1 hts gX4_does_X4_sign rfl rfl rfl hd_X4_sign ⟨Nat.le_of_ble_eq_true rfl, Nat.le_of_ble_eq_true rfl⟩) ⟨pm_ro_blind, va_recv hK hP (ci := 4) (q0 := 0) rfl rfl, pm_ro_pre hP hK⟩ rfl rfl hl.1 rfl (lv_room (Nat.le_of_ble_eq_true rfl)) dX4_does_10 ⟨Nat.le_of_ble_eq_true rfl, Nat.le_of_ble_eq_true rfl⟩) (fun r81 h82 => ?_)
      rcases h82 with ⟨hs83, rfl⟩ | ⟨hs83, rfl⟩
      · have := hPI.2 p0 (by omega)
        refine lv_topi (fun x84 e85 => ?_)
        obtain rfl : x84 = nI 114 := e85.trans (congrArg nI hw)
        refine lv_lookup (off := 63) (tgt := 76) hx hb dX4_does_13 (by decide) (by decide) (by decide) ?_
        refine lv_aload_n hx hb dX4_does_76 rfl (lv_at hl 1 rfl) ?_
        have O : pm_ord S pd ln p0 = pm_aRound S := by unfold pm_ord; rw [if_neg (by omega), if_pos hw]
        rw [O] at hok
        have g1 := pm_round_ok hok
        have E : pm_aRound S = (nI (pm_rct S 30), pm_st (pm_mid2 S 3) 10 0 (S 10 0 + 1)) := by rw [pm_aRound, if_neg (by omega)]; rfl
        refine va_calli (va_runV (As := []) (rest := []) ⟨hx, hb, hml, hown, hts⟩ (k_X4_rounds l D y q S gp gs kn ln sv pd hI) (cwV 0 hts gX4_does_X4_rounds rfl rfl rfl hd_X4_rounds ⟨Nat.le_of_ble_eq_true rfl, Nat.le_of_ble_eq_true rfl⟩) ⟨pm_wr_blind, va_recv hK hP (ci := 4) (q0 := 0) rfl rfl, pm_wr_pre hP hK hD⟩ rfl rfl hl.1 rfl (lv_room (Nat.le_of_ble_eq_true rfl)) dX4_does_77 ⟨Nat.le_of_ble_eq_true rfl, Nat.le_of_ble_eq_true rfl⟩) hS (fun q _ h9 => (pm_ad_all hD) q h9) (pm_ad_all hD) (fun r86 u92 t88 H1 locs ht89 _ h87 hB90 _ hk91 hS => ?_)
        obtain ⟨hP, hD⟩ := pm_all (D := D) (cl := vwCl) (H1 := H1) hD (w' := pm_mo y q (pm_st (pm_mid2 S 3) 10 0 (S 10 0 + 1)) gp gs kn ln sv pd) (by rw [← ht89]; exact hB90) (pm_mo_ad _ _ _ _ _ _ _ _ _ _ _ _ _ _ _ _)
        generalize H1 = H at hP hS ⊢
        obtain rfl : r86 = nI (pm_rct S 30) := h87
        have := pm_rct_le S 30
        exact W.iret hx hb hr (fun t ht _ => ⟨⟨_, (), rfl, rfl, (by show va_P D vwCl (pm_mo y q (pm_ord S pd ln p0).2 gp gs kn ln sv pd) t.heap; rw [ht]; exact (by rw [O, E]; exact hP))⟩, hS.F ht⟩) hS.2.2 dX4_does_80
      · exfalso; omega
    · skip
      refine lv_istore_n (lv' := [(2, .int (-1)), (0, .ref (q 0)), (1, .int (nI p0))]) hx hb dX4_does_7 rfl hl (by decide) rfl (fun ls hl => ?_)
      refine lv_aload_n hx hb dX4_does_8 rfl (lv_at hl 1 rfl) ?_
      refine lv_iload_n hx hb dX4_does_9 rfl (lv_at hl 2 rfl) ?_
      refine vp_callSi (W.runV (As := [.int (nI p0)]) (rest := []) ⟨hx, hb, hml, hown, hts⟩ (k_X4_sign l D y q S gp gs kn ln sv pd p0 hPI (by omega)) (cwV 1 hts gX4_does_X4_sign rfl rfl rfl hd_X4_sign ⟨Nat.le_of_ble_eq_true rfl, Nat.le_of_ble_eq_true rfl⟩) ⟨pm_ro_blind, va_recv hK hP (ci := 4) (q0 := 0) rfl rfl, pm_ro_pre hP hK⟩ rfl rfl hl.1 rfl (lv_room (Nat.le_of_ble_eq_true rfl)) dX4_does_10 ⟨Nat.le_of_ble_eq_true rfl, Nat.le_of_ble_eq_true rfl⟩) (fun r93 h94 => ?_)
      rcases h94 with ⟨hs95, rfl⟩ | ⟨hs95, rfl⟩
      · have := hPI.2 p0 (by omega)
        refine lv_topi (fun x96 e97 => ?_)
        obtain rfl : x96 = nI 114 := e97.trans (congrArg nI hw)
        refine lv_lookup (off := 63) (tgt := 76) hx hb dX4_does_13 (by decide) (by decide) (by decide) ?_
        refine lv_aload_n hx hb dX4_does_76 rfl (lv_at hl 1 rfl) ?_
        have O : pm_ord S pd ln p0 = pm_aRound S := by unfold pm_ord; rw [if_neg (by omega), if_pos hw]
        rw [O] at hok
        have g1 := pm_round_ok hok
        have E : pm_aRound S = (nI (pm_rct S 30), pm_st (pm_mid2 S 3) 10 0 (S 10 0 + 1)) := by rw [pm_aRound, if_neg (by omega)]; rfl
        refine va_calli (va_runV (As := []) (rest := []) ⟨hx, hb, hml, hown, hts⟩ (k_X4_rounds l D y q S gp gs kn ln sv pd hI) (cwV 0 hts gX4_does_X4_rounds rfl rfl rfl hd_X4_rounds ⟨Nat.le_of_ble_eq_true rfl, Nat.le_of_ble_eq_true rfl⟩) ⟨pm_wr_blind, va_recv hK hP (ci := 4) (q0 := 0) rfl rfl, pm_wr_pre hP hK hD⟩ rfl rfl hl.1 rfl (lv_room (Nat.le_of_ble_eq_true rfl)) dX4_does_77 ⟨Nat.le_of_ble_eq_true rfl, Nat.le_of_ble_eq_true rfl⟩) hS (fun q _ h9 => (pm_ad_all hD) q h9) (pm_ad_all hD) (fun r98 u104 t100 H1 locs ht101 _ h99 hB102 _ hk103 hS => ?_)
        obtain ⟨hP, hD⟩ := pm_all (D := D) (cl := vwCl) (H1 := H1) hD (w' := pm_mo y q (pm_st (pm_mid2 S 3) 10 0 (S 10 0 + 1)) gp gs kn ln sv pd) (by rw [← ht101]; exact hB102) (pm_mo_ad _ _ _ _ _ _ _ _ _ _ _ _ _ _ _ _)
        generalize H1 = H at hP hS ⊢
        obtain rfl : r98 = nI (pm_rct S 30) := h99
        have := pm_rct_le S 30
        exact W.iret hx hb hr (fun t ht _ => ⟨⟨_, (), rfl, rfl, (by show va_P D vwCl (pm_mo y q (pm_ord S pd ln p0).2 gp gs kn ln sv pd) t.heap; rw [ht]; exact (by rw [O, E]; exact hP))⟩, hS.F ht⟩) hS.2.2 dX4_does_80
      · exfalso; omega
  · obtain ⟨e1, he1, ⟨k1, ek1⟩, hstar, ⟨kz, ekz⟩, hend, he1b⟩ := pm_k_p hoe hw
    have hk1 := (pm_dg9 ek1).1
    have hkz := (pm_dg9 ekz).1
    refine lv_aload_n hx hb dX4_does_0 rfl (lv_at hl 0 rfl) ?_
    refine lv_iload_n hx hb dX4_does_1 rfl (lv_at hl 1 rfl) ?_
    refine lv_iconst (v := nI 1) hx hb dX4_does_2 (by decide) ?_
    refine kx_iadd hx hb dX4_does_3 ?_
    refine vp_callSi (W.runV (As := [.int (nI (p0 + 1))]) (rest := []) ⟨hx, hb, hml, hown, hts⟩ (k_X4_digit l D y q S gp gs kn ln sv pd (p0 + 1) hPI (by omega)) (cwV 1 hts gX4_does_X4_digit rfl rfl rfl hd_X4_digit ⟨Nat.le_of_ble_eq_true rfl, Nat.le_of_ble_eq_true rfl⟩) ⟨pm_ro_blind, va_recv hK hP (ci := 4) (q0 := 0) rfl rfl, pm_ro_pre hP hK⟩ rfl rfl hl.1 rfl (lv_room (Nat.le_of_ble_eq_true rfl)) dX4_does_4 ⟨Nat.le_of_ble_eq_true rfl, Nat.le_of_ble_eq_true rfl⟩) (fun r105 h106 => ?_)
    rcases h106 with ⟨d107, hd107, ed107, rfl⟩ | ⟨ed107, rfl⟩
    · have qd107 : k1 = d107 := Option.some.inj (ek1.symm.trans ed107)
      subst qd107
      refine lv_istore_n (lv' := [(2, .int (nI k1)), (0, .ref (q 0)), (1, .int (nI p0))]) hx hb dX4_does_7 rfl hl (by decide) rfl (fun ls hl => ?_)
      refine lv_aload_n hx hb dX4_does_8 rfl (lv_at hl 1 rfl) ?_
      refine lv_iload_n hx hb dX4_does_9 rfl (lv_at hl 2 rfl) ?_
      refine vp_callSi (W.runV (As := [.int (nI p0)]) (rest := []) ⟨hx, hb, hml, hown, hts⟩ (k_X4_sign l D y q S gp gs kn ln sv pd p0 hPI (by omega)) (cwV 1 hts gX4_does_X4_sign rfl rfl rfl hd_X4_sign ⟨Nat.le_of_ble_eq_true rfl, Nat.le_of_ble_eq_true rfl⟩) ⟨pm_ro_blind, va_recv hK hP (ci := 4) (q0 := 0) rfl rfl, pm_ro_pre hP hK⟩ rfl rfl hl.1 rfl (lv_room (Nat.le_of_ble_eq_true rfl)) dX4_does_10 ⟨Nat.le_of_ble_eq_true rfl, Nat.le_of_ble_eq_true rfl⟩) (fun r108 h109 => ?_)
      rcases h109 with ⟨hs110, rfl⟩ | ⟨hs110, rfl⟩
      · have := hPI.2 p0 (by omega)
        refine lv_topi (fun x111 e112 => ?_)
        obtain rfl : x111 = nI 112 := e112.trans (congrArg nI hw)
        refine lv_lookup (off := 68) (tgt := 81) hx hb dX4_does_13 (by decide) (by decide) (by decide) ?_
        refine lv_aload_n hx hb dX4_does_81 rfl (lv_at hl 1 rfl) ?_
        refine lv_aload_n hx hb dX4_does_82 rfl (lv_at hl 1 rfl) ?_
        refine lv_iload_n hx hb dX4_does_83 rfl (lv_at hl 2 rfl) ?_
        refine lv_iconst (v := nI 1) hx hb dX4_does_84 (by decide) ?_
        refine kx_iadd hx hb dX4_does_85 ?_
        refine vp_callSi (W.runV (As := [.int (nI (p0 + 1))]) (rest := [.ref (q 0)]) ⟨hx, hb, hml, hown, hts⟩ (k_X4_numberAt l D y q S gp gs kn ln sv pd (p0 + 1) hPI (by omega) ⟨_, ek1⟩) (cwV 1 hts gX4_does_X4_numberAt rfl rfl rfl hd_X4_numberAt ⟨Nat.le_of_ble_eq_true rfl, Nat.le_of_ble_eq_true rfl⟩) ⟨pm_ro_blind, va_recv hK hP (ci := 4) (q0 := 0) rfl rfl, pm_ro_pre hP hK⟩ rfl rfl hl.1 rfl (lv_room (Nat.le_of_ble_eq_true rfl)) dX4_does_86 ⟨Nat.le_of_ble_eq_true rfl, Nat.le_of_ble_eq_true rfl⟩) (fun r113 h114 => ?_)
        obtain rfl : r113 = nI (pm_na pd ln (p0 + 1)) := h114
        have := pm_na_le (P := pd) (ln := ln) (p := (p0 + 1))
        refine lv_aload_n hx hb dX4_does_89 rfl (lv_at hl 1 rfl) ?_
        refine lv_aload_n hx hb dX4_does_90 rfl (lv_at hl 1 rfl) ?_
        refine lv_iload_n hx hb dX4_does_91 rfl (lv_at hl 2 rfl) ?_
        refine lv_iconst (v := nI 1) hx hb dX4_does_92 (by decide) ?_
        refine kx_iadd hx hb dX4_does_93 ?_
        refine vp_callSi (W.runV (As := [.int (nI (p0 + 1))]) (rest := [.ref (q 0), .int (nI (pm_na pd ln (p0 + 1))), .ref (q 0)]) ⟨hx, hb, hml, hown, hts⟩ (k_X4_numberEnd l D y q S gp gs kn ln sv pd (.inl (p0 + 1)) hPI (by have e9 : ∀ z : Nat, pm_sz (.inl z) = z := fun _ => rfl; simp only [e9] at *; omega)) (cwV 1 hts gX4_does_X4_numberEnd rfl rfl rfl hd_X4_numberEnd ⟨Nat.le_of_ble_eq_true rfl, Nat.le_of_ble_eq_true rfl⟩) ⟨pm_ro_blind, va_recv hK hP (ci := 4) (q0 := 0) rfl rfl, pm_ro_pre hP hK⟩ rfl rfl hl.1 rfl (lv_room (Nat.le_of_ble_eq_true rfl)) dX4_does_94 ⟨Nat.le_of_ble_eq_true rfl, Nat.le_of_ble_eq_true rfl⟩) (fun r115 h116 => ?_)
        obtain rfl : r115 = pm_en (pm_bd (.inl (p0 + 1)) (pm_ne pd ln)) := h116
        have := pm_sz_ne (P := pd) (ln := ln) (.inl (p0 + 1))
        refine lv_topi (fun x117 e118 => ?_)
        obtain rfl : x117 = nI e1 := e118.trans ((show pm_en (pm_ne pd ln (p0 + 1)) = nI e1 from by rw [he1]; rfl))
        refine lv_iconst (v := nI 1) hx hb dX4_does_97 (by decide) ?_
        refine kx_iadd hx hb dX4_does_98 ?_
        refine vp_callSi (W.runV (As := [.int (nI (e1 + 1))]) (rest := [.int (nI (pm_na pd ln (p0 + 1))), .ref (q 0)]) ⟨hx, hb, hml, hown, hts⟩ (k_X4_digit l D y q S gp gs kn ln sv pd (e1 + 1) hPI (by omega)) (cwV 1 hts gX4_does_X4_digit rfl rfl rfl hd_X4_digit ⟨Nat.le_of_ble_eq_true rfl, Nat.le_of_ble_eq_true rfl⟩) ⟨pm_ro_blind, va_recv hK hP (ci := 4) (q0 := 0) rfl rfl, pm_ro_pre hP hK⟩ rfl rfl hl.1 rfl (lv_room (Nat.le_of_ble_eq_true rfl)) dX4_does_99 ⟨Nat.le_of_ble_eq_true rfl, Nat.le_of_ble_eq_true rfl⟩) (fun r119 h120 => ?_)
        rcases h120 with ⟨d121, hd121, ed121, rfl⟩ | ⟨ed121, rfl⟩
        · have qd121 : kz = d121 := Option.some.inj (ekz.symm.trans ed121)
          subst qd121
          have O : pm_ord S pd ln p0 = pm_aPrint S (nI (pm_na pd ln (p0 + 1))) (nI kz) := by unfold pm_ord pm_d; rw [if_neg (by omega), if_neg (by omega), if_pos hw, he1, show pm_sz (.inl e1) = e1 from rfl, ekz]; rfl
          rw [O] at hok
          obtain ⟨g1, g2, g3, g4, E⟩ := pm_print_ok (by omega) (by omega) hok
          refine va_calli (va_runV (As := [.int (nI (pm_na pd ln (p0 + 1))), .int (nI kz)]) (rest := []) ⟨hx, hb, hml, hown, hts⟩ (k_X4_prints l D y q S gp gs kn ln sv pd (pm_na pd ln (p0 + 1)) kz hI (by omega) (by omega) (by assumption) (by assumption)) (cwV 2 hts gX4_does_X4_prints rfl rfl rfl hd_X4_prints ⟨Nat.le_of_ble_eq_true rfl, Nat.le_of_ble_eq_true rfl⟩) ⟨pm_wr_blind, va_recv hK hP (ci := 4) (q0 := 0) rfl rfl, pm_wr_pre hP hK hD⟩ rfl rfl hl.1 rfl (lv_room (Nat.le_of_ble_eq_true rfl)) dX4_does_102 ⟨Nat.le_of_ble_eq_true rfl, Nat.le_of_ble_eq_true rfl⟩) hS (fun q _ h9 => (pm_ad_all hD) q h9) (pm_ad_all hD) (fun r122 u128 t124 H1 locs ht125 _ h123 hB126 _ hk127 hS => ?_)
          obtain ⟨hP, hD⟩ := pm_all (D := D) (cl := vwCl) (H1 := H1) hD (w' := pm_mo y q (pm_st (pm_st (pm_st (pm_st (pm_st S 0 (pm_na pd ln (p0 + 1)) 3) 2 (pm_na pd ln (p0 + 1)) kz) 10 1 (S 10 1 - 10 * kz * kz)) 10 2 (S 10 2 + 10 * kz * kz)) 11 kz (S 11 kz + 1)) gp gs kn ln sv pd) (by rw [← ht125]; exact hB126) (pm_mo_ad _ _ _ _ _ _ _ _ _ _ _ _ _ _ _ _)
          generalize H1 = H at hP hS ⊢
          obtain rfl : r122 = nI (S 10 1 - 10 * kz * kz) := h123
          exact W.iret hx hb hr (fun t ht _ => ⟨⟨_, (), rfl, rfl, (by show va_P D vwCl (pm_mo y q (pm_ord S pd ln p0).2 gp gs kn ln sv pd) t.heap; rw [ht]; exact (by rw [O, E]; exact hP))⟩, hS.F ht⟩) hS.2.2 dX4_does_105
        · exact absurd (ed121.symm.trans ekz) (by simp)
      · exfalso; omega
    · exact absurd (ed107.symm.trans ek1) (by simp)
  · obtain ⟨⟨k1, ek1⟩, hend⟩ := pm_k_b hoe hw
    have hk1 := (pm_dg9 ek1).1
    refine lv_aload_n hx hb dX4_does_0 rfl (lv_at hl 0 rfl) ?_
    refine lv_iload_n hx hb dX4_does_1 rfl (lv_at hl 1 rfl) ?_
    refine lv_iconst (v := nI 1) hx hb dX4_does_2 (by decide) ?_
    refine kx_iadd hx hb dX4_does_3 ?_
    refine vp_callSi (W.runV (As := [.int (nI (p0 + 1))]) (rest := []) ⟨hx, hb, hml, hown, hts⟩ (k_X4_digit l D y q S gp gs kn ln sv pd (p0 + 1) hPI (by omega)) (cwV 1 hts gX4_does_X4_digit rfl rfl rfl hd_X4_digit ⟨Nat.le_of_ble_eq_true rfl, Nat.le_of_ble_eq_true rfl⟩) ⟨pm_ro_blind, va_recv hK hP (ci := 4) (q0 := 0) rfl rfl, pm_ro_pre hP hK⟩ rfl rfl hl.1 rfl (lv_room (Nat.le_of_ble_eq_true rfl)) dX4_does_4 ⟨Nat.le_of_ble_eq_true rfl, Nat.le_of_ble_eq_true rfl⟩) (fun r129 h130 => ?_)
    rcases h130 with ⟨d131, hd131, ed131, rfl⟩ | ⟨ed131, rfl⟩
    · have qd131 : k1 = d131 := Option.some.inj (ek1.symm.trans ed131)
      subst qd131
      refine lv_istore_n (lv' := [(2, .int (nI k1)), (0, .ref (q 0)), (1, .int (nI p0))]) hx hb dX4_does_7 rfl hl (by decide) rfl (fun ls hl => ?_)
      refine lv_aload_n hx hb dX4_does_8 rfl (lv_at hl 1 rfl) ?_
      refine lv_iload_n hx hb dX4_does_9 rfl (lv_at hl 2 rfl) ?_
      refine vp_callSi (W.runV (As := [.int (nI p0)]) (rest := []) ⟨hx, hb, hml, hown, hts⟩ (k_X4_sign l D y q S gp gs kn ln sv pd p0 hPI (by omega)) (cwV 1 hts gX4_does_X4_sign rfl rfl rfl hd_X4_sign ⟨Nat.le_of_ble_eq_true rfl, Nat.le_of_ble_eq_true rfl⟩) ⟨pm_ro_blind, va_recv hK hP (ci := 4) (q0 := 0) rfl rfl, pm_ro_pre hP hK⟩ rfl rfl hl.1 rfl (lv_room (Nat.le_of_ble_eq_true rfl)) dX4_does_10 ⟨Nat.le_of_ble_eq_true rfl, Nat.le_of_ble_eq_true rfl⟩) (fun r132 h133 => ?_)
      rcases h133 with ⟨hs134, rfl⟩ | ⟨hs134, rfl⟩
      · have := hPI.2 p0 (by omega)
        refine lv_topi (fun x135 e136 => ?_)
        obtain rfl : x135 = nI 98 := e136.trans (congrArg nI hw)
        refine lv_lookup (off := 93) (tgt := 106) hx hb dX4_does_13 (by decide) (by decide) (by decide) ?_
        refine lv_aload_n hx hb dX4_does_106 rfl (lv_at hl 1 rfl) ?_
        refine lv_aload_n hx hb dX4_does_107 rfl (lv_at hl 1 rfl) ?_
        refine lv_iload_n hx hb dX4_does_108 rfl (lv_at hl 2 rfl) ?_
        refine lv_iconst (v := nI 1) hx hb dX4_does_109 (by decide) ?_
        refine kx_iadd hx hb dX4_does_110 ?_
        refine vp_callSi (W.runV (As := [.int (nI (p0 + 1))]) (rest := [.ref (q 0)]) ⟨hx, hb, hml, hown, hts⟩ (k_X4_numberAt l D y q S gp gs kn ln sv pd (p0 + 1) hPI (by omega) ⟨_, ek1⟩) (cwV 1 hts gX4_does_X4_numberAt rfl rfl rfl hd_X4_numberAt ⟨Nat.le_of_ble_eq_true rfl, Nat.le_of_ble_eq_true rfl⟩) ⟨pm_ro_blind, va_recv hK hP (ci := 4) (q0 := 0) rfl rfl, pm_ro_pre hP hK⟩ rfl rfl hl.1 rfl (lv_room (Nat.le_of_ble_eq_true rfl)) dX4_does_111 ⟨Nat.le_of_ble_eq_true rfl, Nat.le_of_ble_eq_true rfl⟩) (fun r137 h138 => ?_)
        obtain rfl : r137 = nI (pm_na pd ln (p0 + 1)) := h138
        have := pm_na_le (P := pd) (ln := ln) (p := (p0 + 1))
        have O : pm_ord S pd ln p0 = pm_aBuy S (nI (pm_na pd ln (p0 + 1))) := by unfold pm_ord; rw [if_neg (by omega), if_neg (by omega), if_neg (by omega), if_pos hw]
        rw [O] at hok
        obtain ⟨g1, g2⟩ := pm_buy_ok (by omega) hok
        refine va_calli (va_runV (As := [.int (nI (pm_na pd ln (p0 + 1)))]) (rest := []) ⟨hx, hb, hml, hown, hts⟩ (k_X4_buys l D y q S gp gs kn ln sv pd (pm_na pd ln (p0 + 1)) hI (by omega) (by omega)) (cwV 1 hts gX4_does_X4_buys rfl rfl rfl hd_X4_buys ⟨Nat.le_of_ble_eq_true rfl, Nat.le_of_ble_eq_true rfl⟩) ⟨pm_wr_blind, va_recv hK hP (ci := 4) (q0 := 0) rfl rfl, pm_wr_pre hP hK hD⟩ rfl rfl hl.1 rfl (lv_room (Nat.le_of_ble_eq_true rfl)) dX4_does_114 ⟨Nat.le_of_ble_eq_true rfl, Nat.le_of_ble_eq_true rfl⟩) hS (fun q _ h9 => (pm_ad_all hD) q h9) (pm_ad_all hD) (fun r139 u145 t141 H1 locs ht142 _ h140 hB143 _ hk144 hS => ?_)
        obtain ⟨hP, hD⟩ := pm_all (D := D) (cl := vwCl) (H1 := H1) hD (w' := pm_mo y q ((pm_aBuy S (nI (pm_na pd ln (p0 + 1)))).2) gp gs kn ln sv pd) (by rw [← ht142]; exact hB143) (pm_mo_ad _ _ _ _ _ _ _ _ _ _ _ _ _ _ _ _)
        generalize H1 = H at hP hS ⊢
        obtain rfl : r139 = (pm_aBuy S (nI (pm_na pd ln (p0 + 1)))).1 := h140
        exact W.iret hx hb hr (fun t ht _ => ⟨⟨_, (), rfl, rfl, (by show va_P D vwCl (pm_mo y q (pm_ord S pd ln p0).2 gp gs kn ln sv pd) t.heap; rw [ht]; exact (by rw [O]; exact hP))⟩, hS.F ht⟩) hS.2.2 dX4_does_117
      · exfalso; omega
    · exact absurd (ed131.symm.trans ek1) (by simp)
