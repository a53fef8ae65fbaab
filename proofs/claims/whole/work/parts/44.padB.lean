def pm_np (a : Nat) : Nat := if a = 0 then 0 else a + 1
def pm_ae (P : Nat → Nat) (ln i : Nat) : Nat := pm_sz (pm_oe P ln (pm_pos P ln i))
theorem pm_ae_s {P : Nat → Nat} {ln i e : Nat} (h : pm_oe P ln (pm_pos P ln i) = .inl e) : pm_ae P ln i = e := by
  unfold pm_ae
  rw [h]
  rfl
theorem pm_np_s {P : Nat → Nat} {ln i : Nat} (h : ¬ pm_ae P ln i = 0) : pm_np (pm_ae P ln i) = pm_pos P ln (i + 1) := by rw [pm_np, if_neg h]; rfl
set_option maxHeartbeats 4000000 in
set_option maxRecDepth 100000 in
theorem k_X1_nextOrder (l : Launch) (D : va_G) (y : Nat → ClassId) (q : Nat → Nat) (pP : Nat → Nat) (pln pa : Nat) (po ped pot pnm psz : Int32) (hPI : pm_PI pP pln) (hpa : pa ≤ 90) : Met l yX1_nextOrder wsX1_nextOrder ({ frames := 4, cells := 0, slots := 0, locals := 82 } : Room) (pm_wr D (pm_ty y) [.ref (q 0)] (pm_pad y q pP pln pa po ped pot pnm psz)) (pm_Qi D (fun (r : Int32) (u : Nat × Int32 × Int32 × Int32 × Int32 × Int32) => (¬ pa = 0 ∧ ¬ (pa < pln ∧ pP pa = 59) ∧ u.1 = pa ∧ r = nI 0) ∨ ((pa = 0 ∨ (pa < pln ∧ pP pa = 59)) ∧ ((pm_oe pP pln (pm_np pa) = .inl u.1 ∧ pm_FS pP pln (pm_np pa) u.2.1 u.2.2.1 u.2.2.2.1 u.2.2.2.2.1 u.2.2.2.2.2 ∧ r = nI 1) ∨ (pm_oe pP pln (pm_np pa) = .inr u.1 ∧ r = nI 0)))) (fun (u : Nat × Int32 × Int32 × Int32 × Int32 × Int32) => pm_pad y q pP pln u.1 u.2.1 u.2.2.1 u.2.2.2.1 u.2.2.2.2.1 u.2.2.2.2.2) (pm_pad y q pP pln pa po ped pot pnm psz)) 0 0 (pm_ad (pm_pad y q pP pln pa po ped pot pnm psz)) := by
  refine Met.ofW (cc := cX1_nextOrder) (maxL := 1) (ret := (some .boolean)) (by decide) rfl ?_
  intro p e s m args below meth c s₁ B hml hpre
  obtain ⟨rfl, hP, hK, hD0⟩ := hpre
  have hx := B.exec
  have hb := B.bytes
  have hr := B.returns
  have hts := atoms_spec (ws := wsX1_nextOrder) B.pre
  have hown : s.vm.findClass RX1 = some m.cls := findClass_of_methodNamed B.named
  have hlocks := B.notSynchronized
  have hin1 : ∀ w ∈ u_ws RX1 TX1 8, w ∈ wsX1_nextOrder := fun w h => List.mem_cons_of_mem _ (List.mem_append_right _ h)
  have hD := pm_ad_self hD0
  have hS : va_S (pm_ad (pm_pad y q pP pln pa po ped pot pnm psz)) s.heap s.heap [] := va_S.rf
  have hP : va_P D vwCl (pm_pad y q pP pln pa po ped pot pnm psz) s.heap := hP
  have hl := lv_entry ([.ref (q 0)]) (n := 1) (Nat.le_of_ble_eq_true rfl)
  rw [lg_entry_eq]
  generalize (lg_sl ([.ref (q 0)]) ++ List.replicate (1 - (lg_sl ([.ref (q 0)])).length) Slot.unset).toArray = ls at hl ⊢
  have hl : lv_has ls 1 [(0, .ref (q 0))] := hl
  have hln := hPI.1
  refine lv_aload_n hx hb dX1_nextOrder_0 rfl (lv_at hl 0 rfl) ?_
  refine va_get (D := D) (ci := 1) (v := .int (nI pa)) (C := RX1) (T := TX1) (N := 8) hx hb hts hin1 hown hK hP 0 rfl rfl 2 (by decide) (hts (.fieldLink RX1 19 "ProofMarks$Pad" "at" "I") (List.mem_of_getElem? (i := 1) rfl)) (fun _ h9 => h9) rfl dX1_nextOrder_1 ?_
  refine kx_if_eq (tgt := 16) hx hb (by omega) dX1_nextOrder_4 (by decide) (fun c1 => ?_) (fun c1 => ?_)
  · skip
    refine lv_aload_n hx hb dX1_nextOrder_16 rfl (lv_at hl 0 rfl) ?_
    refine va_calli (va_runV (As := []) (rest := []) ⟨hx, hb, hml, hown, hts⟩ (k_X1_takeOrder l D y q pP pln pa po ped pot pnm psz hPI (by omega)) (cwV 0 hts gX1_nextOrder_X1_takeOrder rfl rfl rfl hd_X1_takeOrder ⟨Nat.le_of_ble_eq_true rfl, Nat.le_of_ble_eq_true rfl⟩) ⟨pm_wr_blind, va_recv hK hP (ci := 1) (q0 := 0) rfl rfl, pm_wr_pre hP hK hD⟩ rfl rfl hl.1 rfl (lv_room (Nat.le_of_ble_eq_true rfl)) dX1_nextOrder_17 ⟨Nat.le_of_ble_eq_true rfl, Nat.le_of_ble_eq_true rfl⟩) hS (fun q _ h9 => (pm_ad_all hD) q h9) (pm_ad_all hD) (fun r2 u8 t4 H1 locs ht5 _ h3 hB6 _ hk7 hS => ?_)
    obtain ⟨hP, hD⟩ := pm_all (D := D) (cl := vwCl) (H1 := H1) hD (w' := pm_pad y q pP pln u8.1 u8.2.1 u8.2.2.1 u8.2.2.2.1 u8.2.2.2.2.1 u8.2.2.2.2.2) (by rw [← ht5]; exact hB6) (pm_pad_ad _ _ _ _ _ _ _ _ _ _ _ _ _ _ _ _ _ _)
    generalize H1 = H at hP hS ⊢
    have hzto9 := pm_sz_oe pP pln pa
    rcases h3 with ⟨hto9, fto9, rfl⟩ | ⟨hto9, rfl⟩
    · rw [hto9] at hzto9
      have hzto9 : u8.1 ≤ pa + 6 := hzto9
      refine lv_if_eq (tgt := 27) hx hb dX1_nextOrder_20 (by decide) (fun c10 => absurd c10 (by decide)) (fun _ => ?_)
      refine lv_iconst (v := nI 1) hx hb dX1_nextOrder_23 (by decide) ?_
      refine lv_goto (tgt := 28) hx hb dX1_nextOrder_24 (by decide) ?_
      exact W.zret (ty := .boolean) hx hb hr rfl (fun t ht _ => ⟨⟨_, u8, rfl, (Or.inr ⟨Or.inl (by assumption), Or.inl ⟨by rw [(show pm_np pa = pa from by rw [pm_np, if_pos (by assumption)]; omega)]; exact hto9, by rw [(show pm_np pa = pa from by rw [pm_np, if_pos (by assumption)]; omega)]; exact fto9, rfl⟩⟩), (by show va_P D vwCl (pm_pad y q pP pln u8.1 u8.2.1 u8.2.2.1 u8.2.2.2.1 u8.2.2.2.2.1 u8.2.2.2.2.2) t.heap; rw [ht]; exact hP)⟩, hS.F ht⟩) hS.2.2 dX1_nextOrder_28
    · rw [hto9] at hzto9
      have hzto9 : u8.1 ≤ pa + 6 := hzto9
      refine lv_if_eq (tgt := 27) hx hb dX1_nextOrder_20 (by decide) (fun _ => ?_) (fun c11 => (c11 (by decide)).elim)
      refine lv_iconst (v := nI 0) hx hb dX1_nextOrder_27 (by decide) ?_
      exact W.zret (ty := .boolean) hx hb hr rfl (fun t ht _ => ⟨⟨_, u8, rfl, (Or.inr ⟨Or.inl (by assumption), Or.inr ⟨by rw [(show pm_np pa = pa from by rw [pm_np, if_pos (by assumption)]; omega)]; exact hto9, rfl⟩⟩), (by show va_P D vwCl (pm_pad y q pP pln u8.1 u8.2.1 u8.2.2.1 u8.2.2.2.1 u8.2.2.2.2.1 u8.2.2.2.2.2) t.heap; rw [ht]; exact hP)⟩, hS.F ht⟩) hS.2.2 dX1_nextOrder_28
  · skip
    refine lv_aload_n hx hb dX1_nextOrder_7 rfl (lv_at hl 0 rfl) ?_
    refine lv_bipush (v := nI 59) hx hb dX1_nextOrder_8 (by decide) ?_
    refine va_calli (va_runV (As := [.int (nI 59)]) (rest := []) ⟨hx, hb, hml, hown, hts⟩ (k_X1_take l D y q pP pln pa po ped pot pnm psz 59 hPI (by omega) (by decide) (by decide)) (cwV 1 hts gX1_nextOrder_X1_take rfl rfl rfl hd_X1_take ⟨Nat.le_of_ble_eq_true rfl, Nat.le_of_ble_eq_true rfl⟩) ⟨pm_wr_blind, va_recv hK hP (ci := 1) (q0 := 0) rfl rfl, pm_wr_pre hP hK hD⟩ rfl rfl hl.1 rfl (lv_room (Nat.le_of_ble_eq_true rfl)) dX1_nextOrder_10 ⟨Nat.le_of_ble_eq_true rfl, Nat.le_of_ble_eq_true rfl⟩) hS (fun q _ h9 => (pm_ad_all hD) q h9) (pm_ad_all hD) (fun r12 u18 t14 H1 locs ht15 _ h13 hB16 _ hk17 hS => ?_)
    obtain ⟨hP, hD⟩ := pm_all (D := D) (cl := vwCl) (H1 := H1) hD (w' := pm_pad y q pP pln u18 po ped pot pnm psz) (by rw [← ht15]; exact hB16) (pm_pad_ad _ _ _ _ _ _ _ _ _ _ _ _ _ _ _ _ _ _)
    generalize H1 = H at hP hS ⊢
    rcases h13 with ⟨tk19, etk19, rfl, rfl⟩ | ⟨tk19, rfl, rfl⟩
    · skip
      refine lv_if_eq (tgt := 27) hx hb dX1_nextOrder_13 (by decide) (fun c20 => absurd c20 (by decide)) (fun _ => ?_)
      refine lv_aload_n hx hb dX1_nextOrder_16 rfl (lv_at hl 0 rfl) ?_
      refine va_calli (va_runV (As := []) (rest := []) ⟨hx, hb, hml, hown, hts⟩ (k_X1_takeOrder l D y q pP pln (pa + 1) po ped pot pnm psz hPI (by omega)) (cwV 0 hts gX1_nextOrder_X1_takeOrder rfl rfl rfl hd_X1_takeOrder ⟨Nat.le_of_ble_eq_true rfl, Nat.le_of_ble_eq_true rfl⟩) ⟨pm_wr_blind, va_recv hK hP (ci := 1) (q0 := 0) rfl rfl, pm_wr_pre hP hK hD⟩ rfl rfl hl.1 rfl (lv_room (Nat.le_of_ble_eq_true rfl)) dX1_nextOrder_17 ⟨Nat.le_of_ble_eq_true rfl, Nat.le_of_ble_eq_true rfl⟩) hS (fun q _ h9 => (pm_ad_all hD) q h9) (pm_ad_all hD) (fun r21 u27 t23 H1 locs ht24 _ h22 hB25 _ hk26 hS => ?_)
      obtain ⟨hP, hD⟩ := pm_all (D := D) (cl := vwCl) (H1 := H1) hD (w' := pm_pad y q pP pln u27.1 u27.2.1 u27.2.2.1 u27.2.2.2.1 u27.2.2.2.2.1 u27.2.2.2.2.2) (by rw [← ht24]; exact hB25) (pm_pad_ad _ _ _ _ _ _ _ _ _ _ _ _ _ _ _ _ _ _)
      generalize H1 = H at hP hS ⊢
      have hzto28 := pm_sz_oe pP pln (pa + 1)
      rcases h22 with ⟨hto28, fto28, rfl⟩ | ⟨hto28, rfl⟩
      · rw [hto28] at hzto28
        have hzto28 : u27.1 ≤ (pa + 1) + 6 := hzto28
        refine lv_if_eq (tgt := 27) hx hb dX1_nextOrder_20 (by decide) (fun c29 => absurd c29 (by decide)) (fun _ => ?_)
        refine lv_iconst (v := nI 1) hx hb dX1_nextOrder_23 (by decide) ?_
        refine lv_goto (tgt := 28) hx hb dX1_nextOrder_24 (by decide) ?_
        exact W.zret (ty := .boolean) hx hb hr rfl (fun t ht _ => ⟨⟨_, u27, rfl, (Or.inr ⟨Or.inr ⟨tk19, etk19⟩, Or.inl ⟨by rw [(show pm_np pa = pa + 1 from if_neg (by assumption))]; exact hto28, by rw [(show pm_np pa = pa + 1 from if_neg (by assumption))]; exact fto28, rfl⟩⟩), (by show va_P D vwCl (pm_pad y q pP pln u27.1 u27.2.1 u27.2.2.1 u27.2.2.2.1 u27.2.2.2.2.1 u27.2.2.2.2.2) t.heap; rw [ht]; exact hP)⟩, hS.F ht⟩) hS.2.2 dX1_nextOrder_28
      · rw [hto28] at hzto28
        have hzto28 : u27.1 ≤ (pa + 1) + 6 := hzto28
        refine lv_if_eq (tgt := 27) hx hb dX1_nextOrder_20 (by decide) (fun _ => ?_) (fun c30 => (c30 (by decide)).elim)
        refine lv_iconst (v := nI 0) hx hb dX1_nextOrder_27 (by decide) ?_
        exact W.zret (ty := .boolean) hx hb hr rfl (fun t ht _ => ⟨⟨_, u27, rfl, (Or.inr ⟨Or.inr ⟨tk19, etk19⟩, Or.inr ⟨by rw [(show pm_np pa = pa + 1 from if_neg (by assumption))]; exact hto28, rfl⟩⟩), (by show va_P D vwCl (pm_pad y q pP pln u27.1 u27.2.1 u27.2.2.1 u27.2.2.2.1 u27.2.2.2.2.1 u27.2.2.2.2.2) t.heap; rw [ht]; exact hP)⟩, hS.F ht⟩) hS.2.2 dX1_nextOrder_28
    · skip
      refine lv_if_eq (tgt := 27) hx hb dX1_nextOrder_13 (by decide) (fun _ => ?_) (fun c31 => (c31 (by decide)).elim)
      refine lv_iconst (v := nI 0) hx hb dX1_nextOrder_27 (by decide) ?_
      exact W.zret (ty := .boolean) hx hb hr rfl (fun t ht _ => ⟨⟨_, (pa, po, ped, pot, pnm, psz), rfl, (Or.inl ⟨by assumption, tk19, rfl, rfl⟩), (by show va_P D vwCl (pm_pad y q pP pln pa po ped pot pnm psz) t.heap; rw [ht]; exact hP)⟩, hS.F ht⟩) hS.2.2 dX1_nextOrder_28

set_option maxHeartbeats 4000000 in
set_option maxRecDepth 100000 in
theorem k_X1_faultAt (l : Launch) (D : va_G) (y : Nat → ClassId) (q : Nat → Nat) (pP : Nat → Nat) (pln pa : Nat) (po ped pot pnm psz : Int32) (hPI : pm_PI pP pln) : Met l yX1_faultAt wsX1_faultAt ({ frames := 5, cells := 0, slots := 0, locals := 102 } : Room) (pm_wr D (pm_ty y) [.ref (q 0)] (pm_pad y q pP pln pa po ped pot pnm psz)) (pm_Qi D (fun (r : Int32) (u : Nat × Int32 × Int32 × Int32 × Int32 × Int32) => r = pm_fa pP pln) (fun (u : Nat × Int32 × Int32 × Int32 × Int32 × Int32) => pm_pad y q pP pln u.1 u.2.1 u.2.2.1 u.2.2.2.1 u.2.2.2.2.1 u.2.2.2.2.2) (pm_pad y q pP pln pa po ped pot pnm psz)) 0 0 (pm_ad (pm_pad y q pP pln pa po ped pot pnm psz)) := by
  refine Met.ofW (cc := cX1_faultAt) (maxL := 3) (ret := (some .int)) (by decide) rfl ?_
  intro p e s m args below meth c s₁ B hml hpre
  obtain ⟨rfl, hP, hK, hD0⟩ := hpre
  have hx := B.exec
  have hb := B.bytes
  have hr := B.returns
  have hts := atoms_spec (ws := wsX1_faultAt) B.pre
  have hown : s.vm.findClass RX1 = some m.cls := findClass_of_methodNamed B.named
  have hlocks := B.notSynchronized
  have hin1 : ∀ w ∈ u_ws RX1 TX1 8, w ∈ wsX1_faultAt := fun w h => List.mem_cons_of_mem _ (List.mem_append_right _ h)
  have hD := pm_ad_self hD0
  have hS : va_S (pm_ad (pm_pad y q pP pln pa po ped pot pnm psz)) s.heap s.heap [] := va_S.rf
  have hP : va_P D vwCl (pm_pad y q pP pln pa po ped pot pnm psz) s.heap := hP
  have hl := lv_entry ([.ref (q 0)]) (n := 3) (Nat.le_of_ble_eq_true rfl)
  rw [lg_entry_eq]
  generalize (lg_sl ([.ref (q 0)]) ++ List.replicate (3 - (lg_sl ([.ref (q 0)])).length) Slot.unset).toArray = ls at hl ⊢
  have hl : lv_has ls 3 [(0, .ref (q 0))] := hl
  have hln := hPI.1
  refine lv_aload_n hx hb dX1_faultAt_0 rfl (lv_at hl 0 rfl) ?_
  refine va_callv (va_runV (As := []) (rest := []) ⟨hx, hb, hml, hown, hts⟩ (k_X1_rewind l D y q pP pln pa po ped pot pnm psz) (cwV 0 hts gX1_faultAt_X1_rewind rfl rfl rfl hd_X1_rewind ⟨Nat.le_of_ble_eq_true rfl, Nat.le_of_ble_eq_true rfl⟩) ⟨pm_wr_blind, va_recv hK hP (ci := 1) (q0 := 0) rfl rfl, pm_wr_pre hP hK hD⟩ rfl rfl hl.1 rfl (lv_room (Nat.le_of_ble_eq_true rfl)) dX1_faultAt_1 ⟨Nat.le_of_ble_eq_true rfl, Nat.le_of_ble_eq_true rfl⟩) hS (fun q _ h9 => (pm_ad_all hD) q h9) (pm_ad_all hD) (fun u7 t3 H1 locs ht4 _ h2 hB5 _ hk6 hS => ?_)
  obtain ⟨hP, hD⟩ := pm_all (D := D) (cl := vwCl) (H1 := H1) hD (w' := pm_pad y q pP pln 0 po ped pot pnm psz) (by rw [← ht4]; exact hB5) (pm_pad_ad _ _ _ _ _ _ _ _ _ _ _ _ _ _ _ _ _ _)
  generalize H1 = H at hP hS ⊢
  refine lv_aload_n hx hb dX1_faultAt_4 rfl (lv_at hl 0 rfl) ?_
  refine va_calli (va_runV (As := []) (rest := []) ⟨hx, hb, hml, hown, hts⟩ (k_X1_nextOrder l D y q pP pln 0 po ped pot pnm psz hPI (by omega)) (cwV 0 hts gX1_faultAt_X1_nextOrder rfl rfl rfl hd_X1_nextOrder ⟨Nat.le_of_ble_eq_true rfl, Nat.le_of_ble_eq_true rfl⟩) ⟨pm_wr_blind, va_recv hK hP (ci := 1) (q0 := 0) rfl rfl, pm_wr_pre hP hK hD⟩ rfl rfl hl.1 rfl (lv_room (Nat.le_of_ble_eq_true rfl)) dX1_faultAt_5 ⟨Nat.le_of_ble_eq_true rfl, Nat.le_of_ble_eq_true rfl⟩) hS (fun q _ h9 => (pm_ad_all hD) q h9) (pm_ad_all hD) (fun r8 u14 t10 H1 locs ht11 _ h9 hB12 _ hk13 hS => ?_)
  obtain ⟨hP, hD⟩ := pm_all (D := D) (cl := vwCl) (H1 := H1) hD (w' := pm_pad y q pP pln u14.1 u14.2.1 u14.2.2.1 u14.2.2.2.1 u14.2.2.2.2.1 u14.2.2.2.2.2) (by rw [← ht11]; exact hB12) (pm_pad_ad _ _ _ _ _ _ _ _ _ _ _ _ _ _ _ _ _ _)
  generalize H1 = H at hP hS ⊢
  rcases h9 with ⟨zno15, wno15, qno15, rfl⟩ | ⟨wno15, ⟨hno15, fno15, rfl⟩ | ⟨hno15, rfl⟩⟩
  · skip
    refine lv_istore_n (lv' := [(1, .int (nI 0)), (0, .ref (q 0))]) hx hb dX1_faultAt_8 rfl hl (by decide) rfl (fun ls hl => ?_)
    refine lv_iconst (v := nI 1) hx hb dX1_faultAt_9 (by decide) ?_
    refine lv_istore_n (lv' := [(2, .int (nI 1)), (1, .int (nI 0)), (0, .ref (q 0))]) hx hb dX1_faultAt_10 rfl hl (by decide) rfl (fun ls hl => ?_)
    refine lv_iload_n hx hb dX1_faultAt_11 rfl (lv_at hl 0 rfl) ?_
    refine lv_bipush (v := nI 80) hx hb dX1_faultAt_12 (by decide) ?_
    refine lv_icmp_ge (tgt := 43) hx hb dX1_faultAt_14 (by decide) (fun c16 => absurd c16 (by decide)) (fun _ => ?_)
    refine lv_iload_n hx hb dX1_faultAt_17 rfl (lv_at hl 1 rfl) ?_
    refine lv_if_eq (tgt := 43) hx hb dX1_faultAt_18 (by decide) (fun _ => ?_) (fun c17 => (c17 (by decide)).elim)
    refine lv_iload_n hx hb dX1_faultAt_43 rfl (lv_at hl 1 rfl) ?_
    refine lv_if_eq (tgt := 52) hx hb dX1_faultAt_44 (by decide) (fun _ => ?_) (fun c18 => (c18 (by decide)).elim)
    refine lv_aload_n hx hb dX1_faultAt_52 rfl (lv_at hl 2 rfl) ?_
    refine va_get (D := D) (ci := 1) (v := .int (nI u14.1)) (C := RX1) (T := TX1) (N := 8) hx hb hts hin1 hown hK hP 0 rfl rfl 2 (by decide) (hts (.fieldLink RX1 19 "ProofMarks$Pad" "at" "I") (List.mem_of_getElem? (i := 1) rfl)) (fun _ h9 => h9) rfl dX1_faultAt_53 ?_
    exact W.iret hx hb hr (fun t ht _ => ⟨⟨_, (u14.1, u14.2.1, u14.2.2.1, u14.2.2.2.1, u14.2.2.2.2.1, u14.2.2.2.2.2), rfl, (by exfalso; exact zno15 rfl), (by show va_P D vwCl (pm_pad y q pP pln u14.1 u14.2.1 u14.2.2.1 u14.2.2.2.1 u14.2.2.2.2.1 u14.2.2.2.2.2) t.heap; rw [ht]; exact hP)⟩, hS.F ht⟩) hS.2.2 dX1_faultAt_56
  · skip
    refine lv_istore_n (lv' := [(1, .int (nI 1)), (0, .ref (q 0))]) hx hb dX1_faultAt_8 rfl hl (by decide) rfl (fun ls hl => ?_)
    refine lv_iconst (v := nI 1) hx hb dX1_faultAt_9 (by decide) ?_
    refine lv_istore_n (lv' := [(2, .int (nI 1)), (1, .int (nI 1)), (0, .ref (q 0))]) hx hb dX1_faultAt_10 rfl hl (by decide) rfl (fun ls hl => ?_)
    have LOOP11 : ∀ (n i : Nat) (ls : Array Slot) (H : Heap) (locs : List Loc) (o1 ed1 ot1 nm1 sz1 : Int32), va_P D vwCl (pm_pad y q pP pln (pm_ae pP pln i) o1 ed1 ot1 nm1 sz1) H → va_D (pm_ad (pm_pad y q pP pln pa po ped pot pnm psz)) (pm_pad y q pP pln (pm_ae pP pln i) o1 ed1 ot1 nm1 sz1) → va_S (pm_ad (pm_pad y q pP pln pa po ped pot pnm psz)) s.heap H locs → i ≤ 79 → 79 - i < n → lv_has ls 3 [(0, .ref (q 0)), (1, .int (nI 1)), (2, .int (nI (i + 1)))] → (pm_oe pP pln (pm_pos pP pln i) = .inl (pm_ae pP pln i)) → (pm_flt pP pln (80 - i) (pm_pos pP pln i) = pm_flt pP pln 80 0) → (2 * i ≤ pm_pos pP pln i) → W p l e (headSpec wsX1_faultAt ({ frames := 5, cells := 0, slots := 0, locals := 102 } : Room)).room s m ([.ref (q 0)] : List Value).toArray below meth c H locs 0 0 (MQ below (pm_Qi D (fun (r : Int32) (u : Nat × Int32 × Int32 × Int32 × Int32 × Int32) => r = pm_fa pP pln) (fun (u : Nat × Int32 × Int32 × Int32 × Int32 × Int32) => pm_pad y q pP pln u.1 u.2.1 u.2.2.1 u.2.2.2.1 u.2.2.2.2.1 u.2.2.2.2.2) (pm_pad y q pP pln pa po ped pot pnm psz)) ([.ref (q 0)] : List Value).toArray s 0 0 (pm_ad (pm_pad y q pP pln pa po ped pot pnm psz))) (F0 m 11 ls []) := by
      intro n
      induction n with
      | zero => intro i _ _ _ _ _ _ _ _ _ _ _ hi hn; omega
      | succ n ih19 =>
        intro i ls H locs o1 ed1 ot1 nm1 sz1 hP hD hS hi_i hn_i hl hh11_0 hh11_1 hh11_2
        have hl0 := pm_oe_l hh11_0
        refine lv_iload_n hx hb dX1_faultAt_11 rfl (lv_at hl 2 rfl) ?_
        refine lv_bipush (v := nI 80) hx hb dX1_faultAt_12 (by decide) ?_
        refine kx_icmp_ge (tgt := 43) hx hb (by omega) (by decide) dX1_faultAt_14 (by decide) (fun c20 => ?_) (fun c20 => ?_)
        · skip
          refine lv_iload_n hx hb dX1_faultAt_43 rfl (lv_at hl 1 rfl) ?_
          refine lv_if_eq (tgt := 52) hx hb dX1_faultAt_44 (by decide) (fun c21 => absurd c21 (by decide)) (fun _ => ?_)
          refine lv_bipush (v := (-6)) hx hb dX1_faultAt_47 (by decide) ?_
          refine lv_goto (tgt := 56) hx hb dX1_faultAt_49 (by decide) ?_
          exact W.iret hx hb hr (fun t ht _ => ⟨⟨_, ((pm_ae pP pln i), o1, ed1, ot1, nm1, sz1), rfl, (by first | (exfalso; omega) | rw [pm_fa_none (by rw [← hh11_1, show 80 - i = 79 - i + 1 by omega]; exact pm_flt_e hh11_0 (by omega))]), (by show va_P D vwCl (pm_pad y q pP pln (pm_ae pP pln i) o1 ed1 ot1 nm1 sz1) t.heap; rw [ht]; exact hP)⟩, hS.F ht⟩) hS.2.2 dX1_faultAt_56
        · skip
          refine lv_iload_n hx hb dX1_faultAt_17 rfl (lv_at hl 1 rfl) ?_
          refine lv_if_eq (tgt := 43) hx hb dX1_faultAt_18 (by decide) (fun c22 => absurd c22 (by decide)) (fun _ => ?_)
          refine lv_aload_n hx hb dX1_faultAt_21 rfl (lv_at hl 0 rfl) ?_
          refine va_get (D := D) (ci := 1) (v := .int (nI (pm_ae pP pln i))) (C := RX1) (T := TX1) (N := 8) hx hb hts hin1 hown hK hP 0 rfl rfl 2 (by decide) (hts (.fieldLink RX1 19 "ProofMarks$Pad" "at" "I") (List.mem_of_getElem? (i := 1) rfl)) (fun _ h9 => h9) rfl dX1_faultAt_22 ?_
          refine lv_aload_n hx hb dX1_faultAt_25 rfl (lv_at hl 0 rfl) ?_
          refine va_get (D := D) (ci := 1) (v := .int (nI pln)) (C := RX1) (T := TX1) (N := 8) hx hb hts hin1 hown hK hP 0 rfl rfl 1 (by decide) (hts (.fieldLink RX1 15 "ProofMarks$Pad" "length" "I") (List.mem_of_getElem? (i := 2) rfl)) (fun _ h9 => h9) rfl dX1_faultAt_26 ?_
          refine kx_icmp_ge (tgt := 43) hx hb (by omega) (by omega) dX1_faultAt_29 (by decide) (fun c23 => ?_) (fun c23 => ?_)
          · skip
            refine lv_iload_n hx hb dX1_faultAt_43 rfl (lv_at hl 1 rfl) ?_
            refine lv_if_eq (tgt := 52) hx hb dX1_faultAt_44 (by decide) (fun c24 => absurd c24 (by decide)) (fun _ => ?_)
            refine lv_bipush (v := (-6)) hx hb dX1_faultAt_47 (by decide) ?_
            refine lv_goto (tgt := 56) hx hb dX1_faultAt_49 (by decide) ?_
            exact W.iret hx hb hr (fun t ht _ => ⟨⟨_, ((pm_ae pP pln i), o1, ed1, ot1, nm1, sz1), rfl, (by first | (exfalso; omega) | rw [pm_fa_none (by rw [← hh11_1, show 80 - i = 79 - i + 1 by omega]; exact pm_flt_e hh11_0 (by omega))]), (by show va_P D vwCl (pm_pad y q pP pln (pm_ae pP pln i) o1 ed1 ot1 nm1 sz1) t.heap; rw [ht]; exact hP)⟩, hS.F ht⟩) hS.2.2 dX1_faultAt_56
          · skip
            refine lv_aload_n hx hb dX1_faultAt_32 rfl (lv_at hl 0 rfl) ?_
            refine va_calli (va_runV (As := []) (rest := []) ⟨hx, hb, hml, hown, hts⟩ (k_X1_nextOrder l D y q pP pln (pm_ae pP pln i) o1 ed1 ot1 nm1 sz1 hPI (by omega)) (cwV 0 hts gX1_faultAt_X1_nextOrder rfl rfl rfl hd_X1_nextOrder ⟨Nat.le_of_ble_eq_true rfl, Nat.le_of_ble_eq_true rfl⟩) ⟨pm_wr_blind, va_recv hK hP (ci := 1) (q0 := 0) rfl rfl, pm_wr_pre hP hK hD⟩ rfl rfl hl.1 rfl (lv_room (Nat.le_of_ble_eq_true rfl)) dX1_faultAt_33 ⟨Nat.le_of_ble_eq_true rfl, Nat.le_of_ble_eq_true rfl⟩) hS (fun q _ h9 => (pm_ad_all hD) q h9) (pm_ad_all hD) (fun r25 u31 t27 H1 locs ht28 _ h26 hB29 _ hk30 hS => ?_)
            obtain ⟨hP, hD⟩ := pm_all (D := D) (cl := vwCl) (H1 := H1) hD (w' := pm_pad y q pP pln u31.1 u31.2.1 u31.2.2.1 u31.2.2.2.1 u31.2.2.2.2.1 u31.2.2.2.2.2) (by rw [← ht28]; exact hB29) (pm_pad_ad _ _ _ _ _ _ _ _ _ _ _ _ _ _ _ _ _ _)
            generalize H1 = H at hP hS ⊢
            rcases h26 with ⟨zno32, wno32, qno32, rfl⟩ | ⟨wno32, ⟨hno32, fno32, rfl⟩ | ⟨hno32, rfl⟩⟩
            · skip
              refine lv_istore_n (lv' := [(1, .int (nI 0)), (0, .ref (q 0)), (2, .int (nI (i + 1)))]) hx hb dX1_faultAt_36 rfl hl (by decide) rfl (fun ls hl => ?_)
              refine kx_iinc (a := (i + 1)) (lv' := [(2, .int (nI (i + 1 + 1))), (1, .int (nI 0)), (0, .ref (q 0))]) hx hb dX1_faultAt_37 hl (k := 2) rfl (by decide) rfl (fun ls hl => ?_)
              refine lv_goto (tgt := 11) hx hb dX1_faultAt_40 (by decide) ?_
              refine lv_iload_n hx hb dX1_faultAt_11 rfl (lv_at hl 0 rfl) ?_
              refine lv_bipush (v := nI 80) hx hb dX1_faultAt_12 (by decide) ?_
              refine kx_icmp_ge (tgt := 43) hx hb (by omega) (by decide) dX1_faultAt_14 (by decide) (fun c33 => ?_) (fun c33 => ?_)
              · skip
                refine lv_iload_n hx hb dX1_faultAt_43 rfl (lv_at hl 1 rfl) ?_
                refine lv_if_eq (tgt := 52) hx hb dX1_faultAt_44 (by decide) (fun _ => ?_) (fun c34 => (c34 (by decide)).elim)
                refine lv_aload_n hx hb dX1_faultAt_52 rfl (lv_at hl 2 rfl) ?_
                refine va_get (D := D) (ci := 1) (v := .int (nI u31.1)) (C := RX1) (T := TX1) (N := 8) hx hb hts hin1 hown hK hP 0 rfl rfl 2 (by decide) (hts (.fieldLink RX1 19 "ProofMarks$Pad" "at" "I") (List.mem_of_getElem? (i := 1) rfl)) (fun _ h9 => h9) rfl dX1_faultAt_53 ?_
                exact W.iret hx hb hr (fun t ht _ => ⟨⟨_, (u31.1, u31.2.1, u31.2.2.1, u31.2.2.2.1, u31.2.2.2.2.1, u31.2.2.2.2.2), rfl, (by rw [pm_fa_some (by rw [← hh11_1, show 80 - i = 80 - (i + 1) + 1 by omega]; exact pm_flt_x hh11_0 (by omega) wno32), qno32]), (by show va_P D vwCl (pm_pad y q pP pln u31.1 u31.2.1 u31.2.2.1 u31.2.2.2.1 u31.2.2.2.2.1 u31.2.2.2.2.2) t.heap; rw [ht]; exact hP)⟩, hS.F ht⟩) hS.2.2 dX1_faultAt_56
              · skip
                refine lv_iload_n hx hb dX1_faultAt_17 rfl (lv_at hl 1 rfl) ?_
                refine lv_if_eq (tgt := 43) hx hb dX1_faultAt_18 (by decide) (fun _ => ?_) (fun c35 => (c35 (by decide)).elim)
                refine lv_iload_n hx hb dX1_faultAt_43 rfl (lv_at hl 1 rfl) ?_
                refine lv_if_eq (tgt := 52) hx hb dX1_faultAt_44 (by decide) (fun _ => ?_) (fun c36 => (c36 (by decide)).elim)
                refine lv_aload_n hx hb dX1_faultAt_52 rfl (lv_at hl 2 rfl) ?_
                refine va_get (D := D) (ci := 1) (v := .int (nI u31.1)) (C := RX1) (T := TX1) (N := 8) hx hb hts hin1 hown hK hP 0 rfl rfl 2 (by decide) (hts (.fieldLink RX1 19 "ProofMarks$Pad" "at" "I") (List.mem_of_getElem? (i := 1) rfl)) (fun _ h9 => h9) rfl dX1_faultAt_53 ?_
                exact W.iret hx hb hr (fun t ht _ => ⟨⟨_, (u31.1, u31.2.1, u31.2.2.1, u31.2.2.2.1, u31.2.2.2.2.1, u31.2.2.2.2.2), rfl, (by rw [pm_fa_some (by rw [← hh11_1, show 80 - i = 80 - (i + 1) + 1 by omega]; exact pm_flt_x hh11_0 (by omega) wno32), qno32]), (by show va_P D vwCl (pm_pad y q pP pln u31.1 u31.2.1 u31.2.2.1 u31.2.2.2.1 u31.2.2.2.2.1 u31.2.2.2.2.2) t.heap; rw [ht]; exact hP)⟩, hS.F ht⟩) hS.2.2 dX1_faultAt_56
            · skip
              have hpno32 := hno32
              rw [(pm_np_s (P := pP) (ln := pln) (i := i) (by omega))] at hpno32
              have hsno32 : pm_ae pP pln i < pln ∧ pP (pm_ae pP pln i) = 59 := wno32.resolve_left (by omega)
              refine lv_istore_n (lv' := [(1, .int (nI 1)), (0, .ref (q 0)), (2, .int (nI (i + 1)))]) hx hb dX1_faultAt_36 rfl hl (by decide) rfl (fun ls hl => ?_)
              refine kx_iinc (a := (i + 1)) (lv' := [(2, .int (nI (i + 1 + 1))), (1, .int (nI 1)), (0, .ref (q 0))]) hx hb dX1_faultAt_37 hl (k := 2) rfl (by decide) rfl (fun ls hl => ?_)
              refine lv_goto (tgt := 11) hx hb dX1_faultAt_40 (by decide) ?_
              have q37 : (nI ((i + 1) + 1) : Int32) = nI (i + 1 + 1) := by simp [*]
              exact ih19 (i + 1) ls H locs u31.2.1 u31.2.2.1 u31.2.2.2.1 u31.2.2.2.2.1 u31.2.2.2.2.2 (by rw [(pm_ae_s (i := i + 1) hpno32)]; exact hP) (by rw [(pm_ae_s (i := i + 1) hpno32)]; exact hD) hS (by omega) (by omega) (by rw [q37]; exact lv_sub hl [2, 1, 0] rfl) (by rw [pm_ae_s (i := i + 1) hpno32]; exact hpno32) (by rw [← hh11_1, show 80 - i = 80 - (i + 1) + 1 by omega]; exact (pm_flt_s hh11_0 (by omega) hsno32).symm) (show 2 * (i + 1) ≤ pm_ae pP pln i + 1 by omega)
            · skip
              have hpno32 := hno32
              rw [(pm_np_s (P := pP) (ln := pln) (i := i) (by omega))] at hpno32
              have hsno32 : pm_ae pP pln i < pln ∧ pP (pm_ae pP pln i) = 59 := wno32.resolve_left (by omega)
              refine lv_istore_n (lv' := [(1, .int (nI 0)), (0, .ref (q 0)), (2, .int (nI (i + 1)))]) hx hb dX1_faultAt_36 rfl hl (by decide) rfl (fun ls hl => ?_)
              refine kx_iinc (a := (i + 1)) (lv' := [(2, .int (nI (i + 1 + 1))), (1, .int (nI 0)), (0, .ref (q 0))]) hx hb dX1_faultAt_37 hl (k := 2) rfl (by decide) rfl (fun ls hl => ?_)
              refine lv_goto (tgt := 11) hx hb dX1_faultAt_40 (by decide) ?_
              refine lv_iload_n hx hb dX1_faultAt_11 rfl (lv_at hl 0 rfl) ?_
              refine lv_bipush (v := nI 80) hx hb dX1_faultAt_12 (by decide) ?_
              refine kx_icmp_ge (tgt := 43) hx hb (by omega) (by decide) dX1_faultAt_14 (by decide) (fun c38 => ?_) (fun c38 => ?_)
              · skip
                refine lv_iload_n hx hb dX1_faultAt_43 rfl (lv_at hl 1 rfl) ?_
                refine lv_if_eq (tgt := 52) hx hb dX1_faultAt_44 (by decide) (fun _ => ?_) (fun c39 => (c39 (by decide)).elim)
                refine lv_aload_n hx hb dX1_faultAt_52 rfl (lv_at hl 2 rfl) ?_
                refine va_get (D := D) (ci := 1) (v := .int (nI u31.1)) (C := RX1) (T := TX1) (N := 8) hx hb hts hin1 hown hK hP 0 rfl rfl 2 (by decide) (hts (.fieldLink RX1 19 "ProofMarks$Pad" "at" "I") (List.mem_of_getElem? (i := 1) rfl)) (fun _ h9 => h9) rfl dX1_faultAt_53 ?_
                exact W.iret hx hb hr (fun t ht _ => ⟨⟨_, (u31.1, u31.2.1, u31.2.2.1, u31.2.2.2.1, u31.2.2.2.2.1, u31.2.2.2.2.2), rfl, (by rw [pm_fa_some (by rw [← hh11_1, show 80 - i = 80 - (i + 1) + 1 by omega, pm_flt_s hh11_0 (by omega) hsno32, show 80 - (i + 1) = 78 - i + 1 by omega]; exact pm_flt_r hpno32)]), (by show va_P D vwCl (pm_pad y q pP pln u31.1 u31.2.1 u31.2.2.1 u31.2.2.2.1 u31.2.2.2.2.1 u31.2.2.2.2.2) t.heap; rw [ht]; exact hP)⟩, hS.F ht⟩) hS.2.2 dX1_faultAt_56
              · skip
                refine lv_iload_n hx hb dX1_faultAt_17 rfl (lv_at hl 1 rfl) ?_
                refine lv_if_eq (tgt := 43) hx hb dX1_faultAt_18 (by decide) (fun _ => ?_) (fun c40 => (c40 (by decide)).elim)
                refine lv_iload_n hx hb dX1_faultAt_43 rfl (lv_at hl 1 rfl) ?_
                refine lv_if_eq (tgt := 52) hx hb dX1_faultAt_44 (by decide) (fun _ => ?_) (fun c41 => (c41 (by decide)).elim)
                refine lv_aload_n hx hb dX1_faultAt_52 rfl (lv_at hl 2 rfl) ?_
                refine va_get (D := D) (ci := 1) (v := .int (nI u31.1)) (C := RX1) (T := TX1) (N := 8) hx hb hts hin1 hown hK hP 0 rfl rfl 2 (by decide) (hts (.fieldLink RX1 19 "ProofMarks$Pad" "at" "I") (List.mem_of_getElem? (i := 1) rfl)) (fun _ h9 => h9) rfl dX1_faultAt_53 ?_
                exact W.iret hx hb hr (fun t ht _ => ⟨⟨_, (u31.1, u31.2.1, u31.2.2.1, u31.2.2.2.1, u31.2.2.2.2.1, u31.2.2.2.2.2), rfl, (by rw [pm_fa_some (by rw [← hh11_1, show 80 - i = 80 - (i + 1) + 1 by omega, pm_flt_s hh11_0 (by omega) hsno32, show 80 - (i + 1) = 78 - i + 1 by omega]; exact pm_flt_r hpno32)]), (by show va_P D vwCl (pm_pad y q pP pln u31.1 u31.2.1 u31.2.2.1 u31.2.2.2.1 u31.2.2.2.2.1 u31.2.2.2.2.2) t.heap; rw [ht]; exact hP)⟩, hS.F ht⟩) hS.2.2 dX1_faultAt_56
    exact LOOP11 (79 + 1) 0 ls H locs u14.2.1 u14.2.2.1 u14.2.2.2.1 u14.2.2.2.2.1 u14.2.2.2.2.2 (by rw [(show pm_ae pP pln 0 = u14.1 from pm_ae_s (i := 0) hno15)]; exact hP) (by rw [(show pm_ae pP pln 0 = u14.1 from pm_ae_s (i := 0) hno15)]; exact hD) hS (by omega) (by omega) (lv_sub hl [2, 1, 0] rfl) (by rw [show pm_ae pP pln 0 = u14.1 from pm_ae_s (i := 0) hno15]; exact hno15) rfl (Nat.zero_le _)
  · skip
    refine lv_istore_n (lv' := [(1, .int (nI 0)), (0, .ref (q 0))]) hx hb dX1_faultAt_8 rfl hl (by decide) rfl (fun ls hl => ?_)
    refine lv_iconst (v := nI 1) hx hb dX1_faultAt_9 (by decide) ?_
    refine lv_istore_n (lv' := [(2, .int (nI 1)), (1, .int (nI 0)), (0, .ref (q 0))]) hx hb dX1_faultAt_10 rfl hl (by decide) rfl (fun ls hl => ?_)
    refine lv_iload_n hx hb dX1_faultAt_11 rfl (lv_at hl 0 rfl) ?_
    refine lv_bipush (v := nI 80) hx hb dX1_faultAt_12 (by decide) ?_
    refine lv_icmp_ge (tgt := 43) hx hb dX1_faultAt_14 (by decide) (fun c42 => absurd c42 (by decide)) (fun _ => ?_)
    refine lv_iload_n hx hb dX1_faultAt_17 rfl (lv_at hl 1 rfl) ?_
    refine lv_if_eq (tgt := 43) hx hb dX1_faultAt_18 (by decide) (fun _ => ?_) (fun c43 => (c43 (by decide)).elim)
    refine lv_iload_n hx hb dX1_faultAt_43 rfl (lv_at hl 1 rfl) ?_
    refine lv_if_eq (tgt := 52) hx hb dX1_faultAt_44 (by decide) (fun _ => ?_) (fun c44 => (c44 (by decide)).elim)
    refine lv_aload_n hx hb dX1_faultAt_52 rfl (lv_at hl 2 rfl) ?_
    refine va_get (D := D) (ci := 1) (v := .int (nI u14.1)) (C := RX1) (T := TX1) (N := 8) hx hb hts hin1 hown hK hP 0 rfl rfl 2 (by decide) (hts (.fieldLink RX1 19 "ProofMarks$Pad" "at" "I") (List.mem_of_getElem? (i := 1) rfl)) (fun _ h9 => h9) rfl dX1_faultAt_53 ?_
    exact W.iret hx hb hr (fun t ht _ => ⟨⟨_, (u14.1, u14.2.1, u14.2.2.1, u14.2.2.2.1, u14.2.2.2.2.1, u14.2.2.2.2.2), rfl, (by rw [pm_fa_some (show pm_flt pP pln 80 0 = some u14.1 from pm_flt_r hno15)]), (by show va_P D vwCl (pm_pad y q pP pln u14.1 u14.2.1 u14.2.2.1 u14.2.2.2.1 u14.2.2.2.2.1 u14.2.2.2.2.2) t.heap; rw [ht]; exact hP)⟩, hS.F ht⟩) hS.2.2 dX1_faultAt_56
