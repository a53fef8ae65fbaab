set_option maxHeartbeats 4000000 in
set_option maxRecDepth 100000 in
theorem k_X4_in (l : Launch) (xv xa xb : Int32)  : Met l yX4_in wsX4_in ({ frames := 0, cells := 0, slots := 0, locals := 0 } : Room) (pm_no [.int xv, .int xa, .int xb]) (vp_Si (fun r : Int32 => ((xa ≤ xv ∧ xv ≤ xb) ∧ r = nI 1) ∨ (¬ (xa ≤ xv ∧ xv ≤ xb) ∧ r = nI 0))) 0 0 (fun _ => False) := by
  refine Met.ofW (cc := cX4_in) (maxL := 3) (ret := (some .boolean)) (by decide) rfl ?_
  intro p e s m args below meth c s₁ B hml hpre
  obtain ⟨rfl, -⟩ := hpre
  have hx := B.exec
  have hb := B.bytes
  have hr := B.returns
  have hts := atoms_spec (ws := wsX4_in) B.pre
  have hown : s.vm.findClass RX4 = some m.cls := findClass_of_methodNamed B.named
  have hlocks := B.notSynchronized
  have hl := lv_entry ([.int xv, .int xa, .int xb]) (n := 3) (Nat.le_of_ble_eq_true rfl)
  rw [lg_entry_eq]
  generalize (lg_sl ([.int xv, .int xa, .int xb]) ++ List.replicate (3 - (lg_sl ([.int xv, .int xa, .int xb])).length) Slot.unset).toArray = ls at hl ⊢
  have hl : lv_has ls 3 [(0, .int xv), (1, .int xa), (2, .int xb)] := hl
  refine lv_iload_n hx hb dX4_in_0 rfl (lv_at hl 0 rfl) ?_
  refine lv_iload_n hx hb dX4_in_1 rfl (lv_at hl 1 rfl) ?_
  refine lv_icmp_lt (tgt := 14) hx hb dX4_in_2 (by decide) (fun c1 => ?_) (fun c1 => ?_)
  · skip
    refine lv_iconst (v := nI 0) hx hb dX4_in_14 (by decide) ?_
    exact W.zret (ty := .boolean) hx hb hr rfl (fun t ht _ => ⟨_, rfl, (Or.inr ⟨(fun z => by first | exact absurd (Int32.not_lt.mpr z.1) (fun w => w (by assumption)) | exact absurd (Int32.not_lt.mpr z.2) (fun w => w (by assumption))), rfl⟩), ht⟩) (fun _ h => absurd h List.not_mem_nil) dX4_in_15
  · skip
    refine lv_iload_n hx hb dX4_in_5 rfl (lv_at hl 0 rfl) ?_
    refine lv_iload_n hx hb dX4_in_6 rfl (lv_at hl 2 rfl) ?_
    refine lv_icmp_gt (tgt := 14) hx hb dX4_in_7 (by decide) (fun c2 => ?_) (fun c2 => ?_)
    · skip
      refine lv_iconst (v := nI 0) hx hb dX4_in_14 (by decide) ?_
      exact W.zret (ty := .boolean) hx hb hr rfl (fun t ht _ => ⟨_, rfl, (Or.inr ⟨(fun z => by first | exact absurd (Int32.not_lt.mpr z.1) (fun w => w (by assumption)) | exact absurd (Int32.not_lt.mpr z.2) (fun w => w (by assumption))), rfl⟩), ht⟩) (fun _ h => absurd h List.not_mem_nil) dX4_in_15
    · skip
      refine lv_iconst (v := nI 1) hx hb dX4_in_10 (by decide) ?_
      refine lv_goto (tgt := 15) hx hb dX4_in_11 (by decide) ?_
      exact W.zret (ty := .boolean) hx hb hr rfl (fun t ht _ => ⟨_, rfl, (Or.inl ⟨⟨Int32.not_lt.mp (by assumption), Int32.not_lt.mp (by assumption)⟩, rfl⟩), ht⟩) (fun _ h => absurd h List.not_mem_nil) dX4_in_15

set_option maxHeartbeats 4000000 in
set_option maxRecDepth 100000 in
theorem k_X4_isEditor (l : Launch) (x : Int32)  : Met l yX4_isEditor wsX4_isEditor ({ frames := 1, cells := 0, slots := 0, locals := 22 } : Room) (pm_no [.int x]) (vp_Si (fun r : Int32 => (∃ j, j < 3 ∧ x = nI j ∧ r = nI 1) ∨ ((x < 0 ∨ nI 3 ≤ x) ∧ r = nI 0))) 0 0 (fun _ => False) := by
  refine Met.ofW (cc := cX4_isEditor) (maxL := 1) (ret := (some .boolean)) (by decide) rfl ?_
  intro p e s m args below meth c s₁ B hml hpre
  obtain ⟨rfl, -⟩ := hpre
  have hx := B.exec
  have hb := B.bytes
  have hr := B.returns
  have hts := atoms_spec (ws := wsX4_isEditor) B.pre
  have hown : s.vm.findClass RX4 = some m.cls := findClass_of_methodNamed B.named
  have hlocks := B.notSynchronized
  have hl := lv_entry ([.int x]) (n := 1) (Nat.le_of_ble_eq_true rfl)
  rw [lg_entry_eq]
  generalize (lg_sl ([.int x]) ++ List.replicate (1 - (lg_sl ([.int x])).length) Slot.unset).toArray = ls at hl ⊢
  have hl : lv_has ls 1 [(0, .int x)] := hl
  rcases pm_cases x (n := 3) (by decide) with hnj1 | ⟨j1, hj1, rfl⟩
  · skip
    refine lv_iload_n hx hb dX4_isEditor_0 rfl (lv_at hl 0 rfl) ?_
    refine lv_iconst (v := nI 0) hx hb dX4_isEditor_1 (by decide) ?_
    refine lv_iconst (v := nI 2) hx hb dX4_isEditor_2 (by decide) ?_
    refine vp_callSi (W.runS (As := [.int x, .int (nI 0), .int (nI 2)]) (rest := []) ⟨hx, hb, hml, hown, hts⟩ (k_X4_in l x (nI 0) (nI 2)) (va_cwS 3 hts gX4_isEditor_X4_in rfl rfl rfl hd_X4_in ⟨Nat.le_of_ble_eq_true rfl, Nat.le_of_ble_eq_true rfl⟩) ⟨pm_no_blind, pm_no_pre⟩ rfl rfl hl.1 rfl (lv_room (Nat.le_of_ble_eq_true rfl)) dX4_isEditor_3 ⟨Nat.le_of_ble_eq_true rfl, Nat.le_of_ble_eq_true rfl⟩) (fun r2 h3 => ?_)
    rcases (show ((nI 0 ≤ x ∧ x ≤ nI 2) ∧ r2 = nI 1) ∨ (¬ (nI 0 ≤ x ∧ x ≤ nI 2) ∧ r2 = nI 0) from h3) with ⟨hp4, rfl⟩ | ⟨hp4, rfl⟩
    · exact (pm_no2 (n := 2) (a := 0) hnj1 (by decide) (by decide) hp4).elim
    · skip
      exact W.zret (ty := .boolean) hx hb hr rfl (fun t ht _ => ⟨_, rfl, (Or.inr ⟨hnj1, rfl⟩), ht⟩) (fun _ h => absurd h List.not_mem_nil) dX4_isEditor_6
  · skip
    refine lv_iload_n hx hb dX4_isEditor_0 rfl (lv_at hl 0 rfl) ?_
    refine lv_iconst (v := nI 0) hx hb dX4_isEditor_1 (by decide) ?_
    refine lv_iconst (v := nI 2) hx hb dX4_isEditor_2 (by decide) ?_
    refine vp_callSi (W.runS (As := [.int (nI j1), .int (nI 0), .int (nI 2)]) (rest := []) ⟨hx, hb, hml, hown, hts⟩ (k_X4_in l (nI j1) (nI 0) (nI 2)) (va_cwS 3 hts gX4_isEditor_X4_in rfl rfl rfl hd_X4_in ⟨Nat.le_of_ble_eq_true rfl, Nat.le_of_ble_eq_true rfl⟩) ⟨pm_no_blind, pm_no_pre⟩ rfl rfl hl.1 rfl (lv_room (Nat.le_of_ble_eq_true rfl)) dX4_isEditor_3 ⟨Nat.le_of_ble_eq_true rfl, Nat.le_of_ble_eq_true rfl⟩) (fun r5 h6 => ?_)
    rcases (show ((nI 0 ≤ nI j1 ∧ nI j1 ≤ nI 2) ∧ r5 = nI 1) ∨ (¬ (nI 0 ≤ nI j1 ∧ nI j1 ≤ nI 2) ∧ r5 = nI 0) from h6) with ⟨hp7, rfl⟩ | ⟨hp7, rfl⟩
    · replace hp7 := (pm_in_n (by omega) (by decide) (by decide)).mp hp7
      exact W.zret (ty := .boolean) hx hb hr rfl (fun t ht _ => ⟨_, rfl, (Or.inl ⟨j1, hj1, rfl, rfl⟩), ht⟩) (fun _ h => absurd h List.not_mem_nil) dX4_isEditor_6
    · replace hp7 := mt (pm_in_n (by omega) (by decide) (by decide)).mpr hp7
      exact W.zret (ty := .boolean) hx hb hr rfl (fun t ht _ => ⟨_, rfl, (by exfalso; omega), ht⟩) (fun _ h => absurd h List.not_mem_nil) dX4_isEditor_6

set_option maxHeartbeats 4000000 in
set_option maxRecDepth 100000 in
theorem k_X4_isFrame (l : Launch) (x : Int32)  : Met l yX4_isFrame wsX4_isFrame ({ frames := 1, cells := 0, slots := 0, locals := 22 } : Room) (pm_no [.int x]) (vp_Si (fun r : Int32 => (∃ j, j < 30 ∧ x = nI j ∧ r = nI 1) ∨ ((x < 0 ∨ nI 30 ≤ x) ∧ r = nI 0))) 0 0 (fun _ => False) := by
  refine Met.ofW (cc := cX4_isFrame) (maxL := 1) (ret := (some .boolean)) (by decide) rfl ?_
  intro p e s m args below meth c s₁ B hml hpre
  obtain ⟨rfl, -⟩ := hpre
  have hx := B.exec
  have hb := B.bytes
  have hr := B.returns
  have hts := atoms_spec (ws := wsX4_isFrame) B.pre
  have hown : s.vm.findClass RX4 = some m.cls := findClass_of_methodNamed B.named
  have hlocks := B.notSynchronized
  have hl := lv_entry ([.int x]) (n := 1) (Nat.le_of_ble_eq_true rfl)
  rw [lg_entry_eq]
  generalize (lg_sl ([.int x]) ++ List.replicate (1 - (lg_sl ([.int x])).length) Slot.unset).toArray = ls at hl ⊢
  have hl : lv_has ls 1 [(0, .int x)] := hl
  rcases pm_cases x (n := 30) (by decide) with hnj1 | ⟨j1, hj1, rfl⟩
  · skip
    refine lv_iload_n hx hb dX4_isFrame_0 rfl (lv_at hl 0 rfl) ?_
    refine lv_iconst (v := nI 0) hx hb dX4_isFrame_1 (by decide) ?_
    refine lv_bipush (v := nI 29) hx hb dX4_isFrame_2 (by decide) ?_
    refine vp_callSi (W.runS (As := [.int x, .int (nI 0), .int (nI 29)]) (rest := []) ⟨hx, hb, hml, hown, hts⟩ (k_X4_in l x (nI 0) (nI 29)) (va_cwS 3 hts gX4_isFrame_X4_in rfl rfl rfl hd_X4_in ⟨Nat.le_of_ble_eq_true rfl, Nat.le_of_ble_eq_true rfl⟩) ⟨pm_no_blind, pm_no_pre⟩ rfl rfl hl.1 rfl (lv_room (Nat.le_of_ble_eq_true rfl)) dX4_isFrame_4 ⟨Nat.le_of_ble_eq_true rfl, Nat.le_of_ble_eq_true rfl⟩) (fun r2 h3 => ?_)
    rcases (show ((nI 0 ≤ x ∧ x ≤ nI 29) ∧ r2 = nI 1) ∨ (¬ (nI 0 ≤ x ∧ x ≤ nI 29) ∧ r2 = nI 0) from h3) with ⟨hp4, rfl⟩ | ⟨hp4, rfl⟩
    · exact (pm_no2 (n := 29) (a := 0) hnj1 (by decide) (by decide) hp4).elim
    · skip
      exact W.zret (ty := .boolean) hx hb hr rfl (fun t ht _ => ⟨_, rfl, (Or.inr ⟨hnj1, rfl⟩), ht⟩) (fun _ h => absurd h List.not_mem_nil) dX4_isFrame_7
  · skip
    refine lv_iload_n hx hb dX4_isFrame_0 rfl (lv_at hl 0 rfl) ?_
    refine lv_iconst (v := nI 0) hx hb dX4_isFrame_1 (by decide) ?_
    refine lv_bipush (v := nI 29) hx hb dX4_isFrame_2 (by decide) ?_
    refine vp_callSi (W.runS (As := [.int (nI j1), .int (nI 0), .int (nI 29)]) (rest := []) ⟨hx, hb, hml, hown, hts⟩ (k_X4_in l (nI j1) (nI 0) (nI 29)) (va_cwS 3 hts gX4_isFrame_X4_in rfl rfl rfl hd_X4_in ⟨Nat.le_of_ble_eq_true rfl, Nat.le_of_ble_eq_true rfl⟩) ⟨pm_no_blind, pm_no_pre⟩ rfl rfl hl.1 rfl (lv_room (Nat.le_of_ble_eq_true rfl)) dX4_isFrame_4 ⟨Nat.le_of_ble_eq_true rfl, Nat.le_of_ble_eq_true rfl⟩) (fun r5 h6 => ?_)
    rcases (show ((nI 0 ≤ nI j1 ∧ nI j1 ≤ nI 29) ∧ r5 = nI 1) ∨ (¬ (nI 0 ≤ nI j1 ∧ nI j1 ≤ nI 29) ∧ r5 = nI 0) from h6) with ⟨hp7, rfl⟩ | ⟨hp7, rfl⟩
    · replace hp7 := (pm_in_n (by omega) (by decide) (by decide)).mp hp7
      exact W.zret (ty := .boolean) hx hb hr rfl (fun t ht _ => ⟨_, rfl, (Or.inl ⟨j1, hj1, rfl, rfl⟩), ht⟩) (fun _ h => absurd h List.not_mem_nil) dX4_isFrame_7
    · replace hp7 := mt (pm_in_n (by omega) (by decide) (by decide)).mpr hp7
      exact W.zret (ty := .boolean) hx hb hr rfl (fun t ht _ => ⟨_, rfl, (by exfalso; omega), ht⟩) (fun _ h => absurd h List.not_mem_nil) dX4_isFrame_7

set_option maxHeartbeats 4000000 in
set_option maxRecDepth 100000 in
theorem k_X4_at (l : Launch) (f w : Nat)  : Met l yX4_at wsX4_at ({ frames := 0, cells := 0, slots := 0, locals := 0 } : Room) (pm_no [.int (nI f), .int (nI w)]) (vp_Si (fun r : Int32 => r = nI (5 * f + w))) 0 0 (fun _ => False) := by
  refine Met.ofW (cc := cX4_at) (maxL := 2) (ret := (some .int)) (by decide) rfl ?_
  intro p e s m args below meth c s₁ B hml hpre
  obtain ⟨rfl, -⟩ := hpre
  have hx := B.exec
  have hb := B.bytes
  have hr := B.returns
  have hts := atoms_spec (ws := wsX4_at) B.pre
  have hown : s.vm.findClass RX4 = some m.cls := findClass_of_methodNamed B.named
  have hlocks := B.notSynchronized
  have hl := lv_entry ([.int (nI f), .int (nI w)]) (n := 2) (Nat.le_of_ble_eq_true rfl)
  rw [lg_entry_eq]
  generalize (lg_sl ([.int (nI f), .int (nI w)]) ++ List.replicate (2 - (lg_sl ([.int (nI f), .int (nI w)])).length) Slot.unset).toArray = ls at hl ⊢
  have hl : lv_has ls 2 [(0, .int (nI f)), (1, .int (nI w))] := hl
  refine lv_iconst (v := nI 0) hx hb dX4_at_0 (by decide) ?_
  refine lv_iconst (v := nI 5) hx hb dX4_at_1 (by decide) ?_
  refine lv_iload_n hx hb dX4_at_2 rfl (lv_at hl 0 rfl) ?_
  refine kx_imul hx hb dX4_at_3 ?_
  refine kx_iadd hx hb dX4_at_4 ?_
  refine lv_iload_n hx hb dX4_at_5 rfl (lv_at hl 1 rfl) ?_
  refine kx_iadd hx hb dX4_at_6 ?_
  exact W.iret hx hb hr (fun t ht _ => ⟨_, rfl, (congrArg nI (by omega)), ht⟩) (fun _ h => absurd h List.not_mem_nil) dX4_at_7

set_option maxHeartbeats 4000000 in
set_option maxRecDepth 100000 in
theorem k_X4_of3 (l : Launch) (f w : Nat)  : Met l yX4_of3 wsX4_of3 ({ frames := 0, cells := 0, slots := 0, locals := 0 } : Room) (pm_no [.int (nI f), .int (nI w)]) (vp_Si (fun r : Int32 => r = nI (150 + 4 * f + w))) 0 0 (fun _ => False) := by
  refine Met.ofW (cc := cX4_of3) (maxL := 2) (ret := (some .int)) (by decide) rfl ?_
  intro p e s m args below meth c s₁ B hml hpre
  obtain ⟨rfl, -⟩ := hpre
  have hx := B.exec
  have hb := B.bytes
  have hr := B.returns
  have hts := atoms_spec (ws := wsX4_of3) B.pre
  have hown : s.vm.findClass RX4 = some m.cls := findClass_of_methodNamed B.named
  have hlocks := B.notSynchronized
  have hl := lv_entry ([.int (nI f), .int (nI w)]) (n := 2) (Nat.le_of_ble_eq_true rfl)
  rw [lg_entry_eq]
  generalize (lg_sl ([.int (nI f), .int (nI w)]) ++ List.replicate (2 - (lg_sl ([.int (nI f), .int (nI w)])).length) Slot.unset).toArray = ls at hl ⊢
  have hl : lv_has ls 2 [(0, .int (nI f)), (1, .int (nI w))] := hl
  refine lv_sipush (v := nI 150) hx hb dX4_of3_0 (by decide) ?_
  refine lv_iconst (v := nI 4) hx hb dX4_of3_3 (by decide) ?_
  refine lv_iload_n hx hb dX4_of3_4 rfl (lv_at hl 0 rfl) ?_
  refine kx_imul hx hb dX4_of3_5 ?_
  refine kx_iadd hx hb dX4_of3_6 ?_
  refine lv_iload_n hx hb dX4_of3_7 rfl (lv_at hl 1 rfl) ?_
  refine kx_iadd hx hb dX4_of3_8 ?_
  exact W.iret hx hb hr (fun t ht _ => ⟨_, rfl, rfl, ht⟩) (fun _ h => absurd h List.not_mem_nil) dX4_of3_9

set_option maxHeartbeats 4000000 in
set_option maxRecDepth 100000 in
theorem k_X4_power (l : Launch) (i : Nat) (hi : i < 3) : Met l yX4_power wsX4_power ({ frames := 0, cells := 0, slots := 0, locals := 0 } : Room) (pm_no [.int (nI i)]) (vp_Si (fun r : Int32 => r = nI (4 ^ i))) 0 0 (fun _ => False) := by
  refine Met.ofW (cc := cX4_power) (maxL := 1) (ret := (some .int)) (by decide) rfl ?_
  intro p e s m args below meth c s₁ B hml hpre
  obtain ⟨rfl, -⟩ := hpre
  have hx := B.exec
  have hb := B.bytes
  have hr := B.returns
  have hts := atoms_spec (ws := wsX4_power) B.pre
  have hown : s.vm.findClass RX4 = some m.cls := findClass_of_methodNamed B.named
  have hlocks := B.notSynchronized
  have hl := lv_entry ([.int (nI i)]) (n := 1) (Nat.le_of_ble_eq_true rfl)
  rw [lg_entry_eq]
  generalize (lg_sl ([.int (nI i)]) ++ List.replicate (1 - (lg_sl ([.int (nI i)])).length) Slot.unset).toArray = ls at hl ⊢
  have hl : lv_has ls 1 [(0, .int (nI i))] := hl
  refine lv_iload_n hx hb dX4_power_0 rfl (lv_at hl 0 rfl) ?_
  refine kx_if_ne (tgt := 8) hx hb (by omega) dX4_power_1 (by decide) (fun c1 => ?_) (fun c1 => ?_)
  · skip
    refine lv_iload_n hx hb dX4_power_8 rfl (lv_at hl 0 rfl) ?_
    refine lv_iconst (v := nI 1) hx hb dX4_power_9 (by decide) ?_
    refine kx_icmp_ne (tgt := 17) hx hb (by omega) (by decide) dX4_power_10 (by decide) (fun c2 => ?_) (fun c2 => ?_)
    · skip
      refine lv_bipush (v := nI 16) hx hb dX4_power_17 (by decide) ?_
      exact W.iret hx hb hr (fun t ht _ => ⟨_, rfl, (by rcases (show i = 0 ∨ i = 1 ∨ i = 2 by omega) with h | h | h <;> first | (rw [h]; done) | (rw [h]; rfl) | (exfalso; omega)), ht⟩) (fun _ h => absurd h List.not_mem_nil) dX4_power_19
    · skip
      refine lv_iconst (v := nI 4) hx hb dX4_power_13 (by decide) ?_
      refine lv_goto (tgt := 19) hx hb dX4_power_14 (by decide) ?_
      exact W.iret hx hb hr (fun t ht _ => ⟨_, rfl, (by rcases (show i = 0 ∨ i = 1 ∨ i = 2 by omega) with h | h | h <;> first | (rw [h]; done) | (rw [h]; rfl) | (exfalso; omega)), ht⟩) (fun _ h => absurd h List.not_mem_nil) dX4_power_19
  · skip
    refine lv_iconst (v := nI 1) hx hb dX4_power_4 (by decide) ?_
    refine lv_goto (tgt := 19) hx hb dX4_power_5 (by decide) ?_
    exact W.iret hx hb hr (fun t ht _ => ⟨_, rfl, (by rcases (show i = 0 ∨ i = 1 ∨ i = 2 by omega) with h | h | h <;> first | (rw [h]; done) | (rw [h]; rfl) | (exfalso; omega)), ht⟩) (fun _ h => absurd h List.not_mem_nil) dX4_power_19

set_option maxHeartbeats 4000000 in
set_option maxRecDepth 100000 in
theorem k_X4_paperOf (l : Launch) (z : Nat)  : Met l yX4_paperOf wsX4_paperOf ({ frames := 0, cells := 0, slots := 0, locals := 0 } : Room) (pm_no [.int (nI z)]) (vp_Si (fun r : Int32 => r = nI (10 * z * z))) 0 0 (fun _ => False) := by
  refine Met.ofW (cc := cX4_paperOf) (maxL := 1) (ret := (some .int)) (by decide) rfl ?_
  intro p e s m args below meth c s₁ B hml hpre
  obtain ⟨rfl, -⟩ := hpre
  have hx := B.exec
  have hb := B.bytes
  have hr := B.returns
  have hts := atoms_spec (ws := wsX4_paperOf) B.pre
  have hown : s.vm.findClass RX4 = some m.cls := findClass_of_methodNamed B.named
  have hlocks := B.notSynchronized
  have hl := lv_entry ([.int (nI z)]) (n := 1) (Nat.le_of_ble_eq_true rfl)
  rw [lg_entry_eq]
  generalize (lg_sl ([.int (nI z)]) ++ List.replicate (1 - (lg_sl ([.int (nI z)])).length) Slot.unset).toArray = ls at hl ⊢
  have hl : lv_has ls 1 [(0, .int (nI z))] := hl
  refine lv_bipush (v := nI 10) hx hb dX4_paperOf_0 (by decide) ?_
  refine lv_iload_n hx hb dX4_paperOf_2 rfl (lv_at hl 0 rfl) ?_
  refine kx_imul hx hb dX4_paperOf_3 ?_
  refine lv_iload_n hx hb dX4_paperOf_4 rfl (lv_at hl 0 rfl) ?_
  refine kx_imul hx hb dX4_paperOf_5 ?_
  exact W.iret hx hb hr (fun t ht _ => ⟨_, rfl, rfl, ht⟩) (fun _ h => absurd h List.not_mem_nil) dX4_paperOf_6

theorem pm_onec : ∀ tn, tn < 8 → (((nI tn) &&& (nI 1)) + (((nI tn) >>> ((nI 1) &&& 31)) &&& (nI 1))) + (((nI tn) >>> ((nI 2) &&& 31)) &&& (nI 1)) = nI (pm_pc tn) := by decide +kernel
set_option maxHeartbeats 4000000 in
set_option maxRecDepth 100000 in
theorem k_X4_ones (l : Launch) (tn : Nat) (htn : tn < 8) : Met l yX4_ones wsX4_ones ({ frames := 0, cells := 0, slots := 0, locals := 0 } : Room) (pm_no [.int (nI tn)]) (vp_Si (fun r : Int32 => r = nI (pm_pc tn))) 0 0 (fun _ => False) := by
  refine Met.ofW (cc := cX4_ones) (maxL := 1) (ret := (some .int)) (by decide) rfl ?_
  intro p e s m args below meth c s₁ B hml hpre
  obtain ⟨rfl, -⟩ := hpre
  have hx := B.exec
  have hb := B.bytes
  have hr := B.returns
  have hts := atoms_spec (ws := wsX4_ones) B.pre
  have hown : s.vm.findClass RX4 = some m.cls := findClass_of_methodNamed B.named
  have hlocks := B.notSynchronized
  have hl := lv_entry ([.int (nI tn)]) (n := 1) (Nat.le_of_ble_eq_true rfl)
  rw [lg_entry_eq]
  generalize (lg_sl ([.int (nI tn)]) ++ List.replicate (1 - (lg_sl ([.int (nI tn)])).length) Slot.unset).toArray = ls at hl ⊢
  have hl : lv_has ls 1 [(0, .int (nI tn))] := hl
  refine lv_iload_n hx hb dX4_ones_0 rfl (lv_at hl 0 rfl) ?_
  refine lv_iconst (v := nI 1) hx hb dX4_ones_1 (by decide) ?_
  refine lv_iand hx hb dX4_ones_2 ?_
  refine lv_iload_n hx hb dX4_ones_3 rfl (lv_at hl 0 rfl) ?_
  refine lv_iconst (v := nI 1) hx hb dX4_ones_4 (by decide) ?_
  refine lv_ishr hx hb dX4_ones_5 ?_
  refine lv_iconst (v := nI 1) hx hb dX4_ones_6 (by decide) ?_
  refine lv_iand hx hb dX4_ones_7 ?_
  refine lv_iadd hx hb dX4_ones_8 ?_
  refine lv_iload_n hx hb dX4_ones_9 rfl (lv_at hl 0 rfl) ?_
  refine lv_iconst (v := nI 2) hx hb dX4_ones_10 (by decide) ?_
  refine lv_ishr hx hb dX4_ones_11 ?_
  refine lv_iconst (v := nI 1) hx hb dX4_ones_12 (by decide) ?_
  refine lv_iand hx hb dX4_ones_13 ?_
  refine lv_iadd hx hb dX4_ones_14 ?_
  exact W.iret hx hb hr (fun t ht _ => ⟨_, rfl, (pm_onec tn htn), ht⟩) (fun _ h => absurd h List.not_mem_nil) dX4_ones_15

set_option maxHeartbeats 4000000 in
set_option maxRecDepth 100000 in
theorem k_X4_markOf (l : Launch) (D : va_G) (y : Nat → ClassId) (q : Nat → Nat) (S : Nat → Nat → Nat) (gp gs : Nat → Int32) (kn ln : Nat) (sv pd : Nat → Nat) (i f : Nat) (ho : pm_okb (S 4 f) = true) (hi : i < 3) (hf : f < 30) : Met l yX4_markOf wsX4_markOf ({ frames := 1, cells := 0, slots := 0, locals := 21 } : Room) (pm_ro D (pm_ty y) [.ref (q 0), .int (nI i), .int (nI f)] (pm_mo y q S gp gs kn ln sv pd)) (vp_Si (fun r : Int32 => r = nI (pm_mk (S 4 f) i))) 0 0 (fun _ => False) := by
  refine Met.ofW (cc := cX4_markOf) (maxL := 3) (ret := (some .int)) (by decide) rfl ?_
  intro p e s m args below meth c s₁ B hml hpre
  obtain ⟨rfl, hP, hK⟩ := hpre
  have hx := B.exec
  have hb := B.bytes
  have hr := B.returns
  have hts := atoms_spec (ws := wsX4_markOf) B.pre
  have hown : s.vm.findClass RX4 = some m.cls := findClass_of_methodNamed B.named
  have hlocks := B.notSynchronized
  have hin4 : ∀ w ∈ u_ws RX4 TX4 7, w ∈ wsX4_markOf := fun w h => List.mem_cons_of_mem _ (List.mem_append_right _ h)
  have hP : va_P D vwCl (pm_mo y q S gp gs kn ln sv pd) s.heap := hP
  have hl := lv_entry ([.ref (q 0), .int (nI i), .int (nI f)]) (n := 3) (Nat.le_of_ble_eq_true rfl)
  rw [lg_entry_eq]
  generalize (lg_sl ([.ref (q 0), .int (nI i), .int (nI f)]) ++ List.replicate (3 - (lg_sl ([.ref (q 0), .int (nI i), .int (nI f)])).length) Slot.unset).toArray = ls at hl ⊢
  have hl : lv_has ls 3 [(0, .ref (q 0)), (1, .int (nI i)), (2, .int (nI f))] := hl
  refine lv_aload_n hx hb dX4_markOf_0 rfl (lv_at hl 0 rfl) ?_
  refine va_get (D := D) (ci := 4) (v := .ref (q 1)) (C := RX4) (T := TX4) (N := 7) hx hb hts hin4 hown hK hP 0 rfl rfl 0 (by decide) (hts (.fieldLink RX4 7 "ProofMarksModel" "s" "[I") (List.mem_of_getElem? (i := 1) rfl)) (fun _ h9 => h9) rfl dX4_markOf_1 ?_
  refine lv_iload_n hx hb dX4_markOf_4 rfl (lv_at hl 2 rfl) ?_
  refine lv_iconst (v := nI 4) hx hb dX4_markOf_5 (by decide) ?_
  refine vp_callSi (W.runS (As := [.int (nI f), .int (nI 4)]) (rest := [.ref (q 1)]) ⟨hx, hb, hml, hown, hts⟩ (k_X4_at l f 4) (va_cwS 2 hts gX4_markOf_X4_at rfl rfl rfl hd_X4_at ⟨Nat.le_of_ble_eq_true rfl, Nat.le_of_ble_eq_true rfl⟩) ⟨pm_no_blind, pm_no_pre⟩ rfl rfl hl.1 rfl (lv_room (Nat.le_of_ble_eq_true rfl)) dX4_markOf_6 ⟨Nat.le_of_ble_eq_true rfl, Nat.le_of_ble_eq_true rfl⟩) (fun r1 h2 => ?_)
  obtain rfl : r1 = nI (5 * f + 4) := h2
  refine kx_iald (v := nI (S 4 f)) hx hb hK hP 1 0 rfl rfl (by omega) (by decide) (pm_ms_f (S := S) (f := f) 4 (by decide) (by decide) (by omega)) dX4_markOf_9 ?_
  have := pm_okb64 ho
  refine lv_iload_n hx hb dX4_markOf_10 rfl (lv_at hl 1 rfl) ?_
  refine vp_callSi (W.runS (As := [.int (nI i)]) (rest := [.int (nI (S 4 f))]) ⟨hx, hb, hml, hown, hts⟩ (k_X4_power l i (by omega)) (va_cwS 1 hts gX4_markOf_X4_power rfl rfl rfl hd_X4_power ⟨Nat.le_of_ble_eq_true rfl, Nat.le_of_ble_eq_true rfl⟩) ⟨pm_no_blind, pm_no_pre⟩ rfl rfl hl.1 rfl (lv_room (Nat.le_of_ble_eq_true rfl)) dX4_markOf_11 ⟨Nat.le_of_ble_eq_true rfl, Nat.le_of_ble_eq_true rfl⟩) (fun r3 h4 => ?_)
  obtain rfl : r3 = nI (4 ^ i) := h4
  have := pm_p4 i (by omega)
  refine kx_idiv hx hb (by omega) (by omega) (by omega) dX4_markOf_14 ?_
  have := Nat.div_le_self (S 4 f) (4 ^ i)
  refine lv_iconst (v := nI 4) hx hb dX4_markOf_15 (by decide) ?_
  refine kx_irem hx hb (by omega) (by omega) (by omega) dX4_markOf_16 ?_
  exact W.iret hx hb hr (fun t ht _ => ⟨_, rfl, rfl, ht⟩) (fun _ h => absurd h List.not_mem_nil) dX4_markOf_17

set_option maxHeartbeats 4000000 in
set_option maxRecDepth 100000 in
theorem k_X4_withMark (l : Launch) (D : va_G) (y : Nat → ClassId) (q : Nat → Nat) (S : Nat → Nat → Nat) (gp gs : Nat → Int32) (kn ln : Nat) (sv pd : Nat → Nat) (f v : Nat) (ho : pm_okb (S 4 f) = true) (hf : f < 30) (hv : v < 3) : Met l yX4_withMark wsX4_withMark ({ frames := 2, cells := 0, slots := 0, locals := 43 } : Room) (pm_ro D (pm_ty y) [.ref (q 0), .int (nI f), .int (nI v)] (pm_mo y q S gp gs kn ln sv pd)) (vp_Si (fun r : Int32 => r = nI (pm_wm (S 4 f) v 3))) 0 0 (fun _ => False) := by
  refine Met.ofW (cc := cX4_withMark) (maxL := 5) (ret := (some .int)) (by decide) rfl ?_
  intro p e s m args below meth c s₁ B hml hpre
  obtain ⟨rfl, hP, hK⟩ := hpre
  have hx := B.exec
  have hb := B.bytes
  have hr := B.returns
  have hts := atoms_spec (ws := wsX4_withMark) B.pre
  have hown : s.vm.findClass RX4 = some m.cls := findClass_of_methodNamed B.named
  have hlocks := B.notSynchronized
  have hin4 : ∀ w ∈ u_ws RX4 TX4 7, w ∈ wsX4_withMark := fun w h => List.mem_cons_of_mem _ (List.mem_append_right _ h)
  have hP : va_P D vwCl (pm_mo y q S gp gs kn ln sv pd) s.heap := hP
  have hl := lv_entry ([.ref (q 0), .int (nI f), .int (nI v)]) (n := 5) (Nat.le_of_ble_eq_true rfl)
  rw [lg_entry_eq]
  generalize (lg_sl ([.ref (q 0), .int (nI f), .int (nI v)]) ++ List.replicate (5 - (lg_sl ([.ref (q 0), .int (nI f), .int (nI v)])).length) Slot.unset).toArray = ls at hl ⊢
  have hl : lv_has ls 5 [(0, .ref (q 0)), (1, .int (nI f)), (2, .int (nI v))] := hl
  refine lv_iconst (v := nI 0) hx hb dX4_withMark_0 (by decide) ?_
  refine lv_topi (fun x1 e2 => ?_)
  obtain rfl : x1 = nI (pm_wm (S 4 f) v 0) := e2.trans (rfl)
  refine lv_istore_n (lv' := [(3, .int (nI (pm_wm (S 4 f) v 0))), (0, .ref (q 0)), (1, .int (nI f)), (2, .int (nI v))]) hx hb dX4_withMark_1 rfl hl (by decide) rfl (fun ls hl => ?_)
  refine lv_iconst (v := nI 0) hx hb dX4_withMark_2 (by decide) ?_
  refine lv_istore (lv' := [(4, .int (nI 0)), (3, .int (nI (pm_wm (S 4 f) v 0))), (0, .ref (q 0)), (1, .int (nI f)), (2, .int (nI v))]) hx hb dX4_withMark_3 hl (by decide) rfl (fun ls hl => ?_)
  refine lv_iload hx hb dX4_withMark_5 (lv_at hl 0 rfl) ?_
  refine lv_iconst (v := nI 3) hx hb dX4_withMark_7 (by decide) ?_
  refine lv_icmp_ge (tgt := 39) hx hb dX4_withMark_8 (by decide) (fun c3 => absurd c3 (by decide)) (fun _ => ?_)
  refine lv_iload_n hx hb dX4_withMark_11 rfl (lv_at hl 1 rfl) ?_
  refine lv_aload_n hx hb dX4_withMark_12 rfl (lv_at hl 2 rfl) ?_
  refine lv_iload hx hb dX4_withMark_13 (lv_at hl 0 rfl) ?_
  refine lv_iload_n hx hb dX4_withMark_15 rfl (lv_at hl 3 rfl) ?_
  refine vp_callSi (W.runV (As := [.int (nI 0), .int (nI f)]) (rest := [.int (nI (pm_wm (S 4 f) v 0))]) ⟨hx, hb, hml, hown, hts⟩ (k_X4_markOf l D y q S gp gs kn ln sv pd 0 f ho (by omega) (by omega)) (cwV 2 hts gX4_withMark_X4_markOf rfl rfl rfl hd_X4_markOf ⟨Nat.le_of_ble_eq_true rfl, Nat.le_of_ble_eq_true rfl⟩) ⟨pm_ro_blind, va_recv hK hP (ci := 4) (q0 := 0) rfl rfl, pm_ro_pre hP hK⟩ rfl rfl hl.1 rfl (lv_room (Nat.le_of_ble_eq_true rfl)) dX4_withMark_16 ⟨Nat.le_of_ble_eq_true rfl, Nat.le_of_ble_eq_true rfl⟩) (fun r4 h5 => ?_)
  obtain rfl : r4 = nI (pm_mk (S 4 f) 0) := h5
  have := pm_lt4 (S 4 f) 0
  refine lv_iload_n hx hb dX4_withMark_19 rfl (lv_at hl 4 rfl) ?_
  refine kx_icmp_ne (tgt := 30) hx hb (by omega) (by omega) dX4_withMark_20 (by decide) (fun c6 => ?_) (fun c6 => ?_)
  · skip
    refine lv_iconst (v := nI 0) hx hb dX4_withMark_30 (by decide) ?_
    refine lv_ior hx hb dX4_withMark_31 ?_
    refine lv_topi (fun x7 e8 => ?_)
    obtain rfl : x7 = nI (pm_wm (S 4 f) v 1) := e8.trans ((by first | exact pm_wm_p (n := 0) (by decide) (by assumption) | exact pm_wm_n (n := 0) (by decide) (by assumption)))
    refine lv_istore_n (lv' := [(3, .int (nI (pm_wm (S 4 f) v 1))), (4, .int (nI 0)), (0, .ref (q 0)), (1, .int (nI f)), (2, .int (nI v))]) hx hb dX4_withMark_32 rfl hl (by decide) rfl (fun ls hl => ?_)
    refine lv_iinc (v := nI 1) (lv' := [(4, .int (nI 1)), (3, .int (nI (pm_wm (S 4 f) v 1))), (0, .ref (q 0)), (1, .int (nI f)), (2, .int (nI v))]) hx hb dX4_withMark_33 hl (k := 1) rfl (by decide) (by decide) rfl (fun ls hl => ?_)
    refine lv_goto (tgt := 5) hx hb dX4_withMark_36 (by decide) ?_
    refine lv_iload hx hb dX4_withMark_5 (lv_at hl 0 rfl) ?_
    refine lv_iconst (v := nI 3) hx hb dX4_withMark_7 (by decide) ?_
    refine lv_icmp_ge (tgt := 39) hx hb dX4_withMark_8 (by decide) (fun c9 => absurd c9 (by decide)) (fun _ => ?_)
    refine lv_iload_n hx hb dX4_withMark_11 rfl (lv_at hl 1 rfl) ?_
    refine lv_aload_n hx hb dX4_withMark_12 rfl (lv_at hl 2 rfl) ?_
    refine lv_iload hx hb dX4_withMark_13 (lv_at hl 0 rfl) ?_
    refine lv_iload_n hx hb dX4_withMark_15 rfl (lv_at hl 3 rfl) ?_
    refine vp_callSi (W.runV (As := [.int (nI 1), .int (nI f)]) (rest := [.int (nI (pm_wm (S 4 f) v 1))]) ⟨hx, hb, hml, hown, hts⟩ (k_X4_markOf l D y q S gp gs kn ln sv pd 1 f ho (by omega) (by omega)) (cwV 2 hts gX4_withMark_X4_markOf rfl rfl rfl hd_X4_markOf ⟨Nat.le_of_ble_eq_true rfl, Nat.le_of_ble_eq_true rfl⟩) ⟨pm_ro_blind, va_recv hK hP (ci := 4) (q0 := 0) rfl rfl, pm_ro_pre hP hK⟩ rfl rfl hl.1 rfl (lv_room (Nat.le_of_ble_eq_true rfl)) dX4_withMark_16 ⟨Nat.le_of_ble_eq_true rfl, Nat.le_of_ble_eq_true rfl⟩) (fun r10 h11 => ?_)
    obtain rfl : r10 = nI (pm_mk (S 4 f) 1) := h11
    have := pm_lt4 (S 4 f) 1
    refine lv_iload_n hx hb dX4_withMark_19 rfl (lv_at hl 4 rfl) ?_
    refine kx_icmp_ne (tgt := 30) hx hb (by omega) (by omega) dX4_withMark_20 (by decide) (fun c12 => ?_) (fun c12 => ?_)
    · skip
      refine lv_iconst (v := nI 0) hx hb dX4_withMark_30 (by decide) ?_
      refine lv_ior hx hb dX4_withMark_31 ?_
      refine lv_topi (fun x13 e14 => ?_)
      obtain rfl : x13 = nI (pm_wm (S 4 f) v 2) := e14.trans ((by first | exact pm_wm_p (n := 1) (by decide) (by assumption) | exact pm_wm_n (n := 1) (by decide) (by assumption)))
      refine lv_istore_n (lv' := [(3, .int (nI (pm_wm (S 4 f) v 2))), (4, .int (nI 1)), (0, .ref (q 0)), (1, .int (nI f)), (2, .int (nI v))]) hx hb dX4_withMark_32 rfl hl (by decide) rfl (fun ls hl => ?_)
      refine lv_iinc (v := nI 2) (lv' := [(4, .int (nI 2)), (3, .int (nI (pm_wm (S 4 f) v 2))), (0, .ref (q 0)), (1, .int (nI f)), (2, .int (nI v))]) hx hb dX4_withMark_33 hl (k := 1) rfl (by decide) (by decide) rfl (fun ls hl => ?_)
      refine lv_goto (tgt := 5) hx hb dX4_withMark_36 (by decide) ?_
      refine lv_iload hx hb dX4_withMark_5 (lv_at hl 0 rfl) ?_
      refine lv_iconst (v := nI 3) hx hb dX4_withMark_7 (by decide) ?_
      refine lv_icmp_ge (tgt := 39) hx hb dX4_withMark_8 (by decide) (fun c15 => absurd c15 (by decide)) (fun _ => ?_)
      refine lv_iload_n hx hb dX4_withMark_11 rfl (lv_at hl 1 rfl) ?_
      refine lv_aload_n hx hb dX4_withMark_12 rfl (lv_at hl 2 rfl) ?_
      refine lv_iload hx hb dX4_withMark_13 (lv_at hl 0 rfl) ?_
      refine lv_iload_n hx hb dX4_withMark_15 rfl (lv_at hl 3 rfl) ?_
      refine vp_callSi (W.runV (As := [.int (nI 2), .int (nI f)]) (rest := [.int (nI (pm_wm (S 4 f) v 2))]) ⟨hx, hb, hml, hown, hts⟩ (k_X4_markOf l D y q S gp gs kn ln sv pd 2 f ho (by omega) (by omega)) (cwV 2 hts gX4_withMark_X4_markOf rfl rfl rfl hd_X4_markOf ⟨Nat.le_of_ble_eq_true rfl, Nat.le_of_ble_eq_true rfl⟩) ⟨pm_ro_blind, va_recv hK hP (ci := 4) (q0 := 0) rfl rfl, pm_ro_pre hP hK⟩ rfl rfl hl.1 rfl (lv_room (Nat.le_of_ble_eq_true rfl)) dX4_withMark_16 ⟨Nat.le_of_ble_eq_true rfl, Nat.le_of_ble_eq_true rfl⟩) (fun r16 h17 => ?_)
      obtain rfl : r16 = nI (pm_mk (S 4 f) 2) := h17
      have := pm_lt4 (S 4 f) 2
      refine lv_iload_n hx hb dX4_withMark_19 rfl (lv_at hl 4 rfl) ?_
      refine kx_icmp_ne (tgt := 30) hx hb (by omega) (by omega) dX4_withMark_20 (by decide) (fun c18 => ?_) (fun c18 => ?_)
      · skip
        refine lv_iconst (v := nI 0) hx hb dX4_withMark_30 (by decide) ?_
        refine lv_ior hx hb dX4_withMark_31 ?_
        refine lv_topi (fun x19 e20 => ?_)
        obtain rfl : x19 = nI (pm_wm (S 4 f) v 3) := e20.trans ((by first | exact pm_wm_p (n := 2) (by decide) (by assumption) | exact pm_wm_n (n := 2) (by decide) (by assumption)))
        refine lv_istore_n (lv' := [(3, .int (nI (pm_wm (S 4 f) v 3))), (4, .int (nI 2)), (0, .ref (q 0)), (1, .int (nI f)), (2, .int (nI v))]) hx hb dX4_withMark_32 rfl hl (by decide) rfl (fun ls hl => ?_)
        refine lv_iinc (v := nI 3) (lv' := [(4, .int (nI 3)), (3, .int (nI (pm_wm (S 4 f) v 3))), (0, .ref (q 0)), (1, .int (nI f)), (2, .int (nI v))]) hx hb dX4_withMark_33 hl (k := 1) rfl (by decide) (by decide) rfl (fun ls hl => ?_)
        refine lv_goto (tgt := 5) hx hb dX4_withMark_36 (by decide) ?_
        refine lv_iload hx hb dX4_withMark_5 (lv_at hl 0 rfl) ?_
        refine lv_iconst (v := nI 3) hx hb dX4_withMark_7 (by decide) ?_
        refine lv_icmp_ge (tgt := 39) hx hb dX4_withMark_8 (by decide) (fun _ => ?_) (fun c21 => (c21 (by decide)).elim)
        refine lv_iload_n hx hb dX4_withMark_39 rfl (lv_at hl 1 rfl) ?_
        exact W.iret hx hb hr (fun t ht _ => ⟨_, rfl, rfl, ht⟩) (fun _ h => absurd h List.not_mem_nil) dX4_withMark_40
      · skip
        refine lv_iconst (v := nI 1) hx hb dX4_withMark_23 (by decide) ?_
        refine lv_iload hx hb dX4_withMark_24 (lv_at hl 0 rfl) ?_
        refine lv_ishl hx hb dX4_withMark_26 ?_
        refine lv_goto (tgt := 31) hx hb dX4_withMark_27 (by decide) ?_
        refine lv_ior hx hb dX4_withMark_31 ?_
        refine lv_topi (fun x22 e23 => ?_)
        obtain rfl : x22 = nI (pm_wm (S 4 f) v 3) := e23.trans ((by first | exact pm_wm_p (n := 2) (by decide) (by assumption) | exact pm_wm_n (n := 2) (by decide) (by assumption)))
        refine lv_istore_n (lv' := [(3, .int (nI (pm_wm (S 4 f) v 3))), (4, .int (nI 2)), (0, .ref (q 0)), (1, .int (nI f)), (2, .int (nI v))]) hx hb dX4_withMark_32 rfl hl (by decide) rfl (fun ls hl => ?_)
        refine lv_iinc (v := nI 3) (lv' := [(4, .int (nI 3)), (3, .int (nI (pm_wm (S 4 f) v 3))), (0, .ref (q 0)), (1, .int (nI f)), (2, .int (nI v))]) hx hb dX4_withMark_33 hl (k := 1) rfl (by decide) (by decide) rfl (fun ls hl => ?_)
        refine lv_goto (tgt := 5) hx hb dX4_withMark_36 (by decide) ?_
        refine lv_iload hx hb dX4_withMark_5 (lv_at hl 0 rfl) ?_
        refine lv_iconst (v := nI 3) hx hb dX4_withMark_7 (by decide) ?_
        refine lv_icmp_ge (tgt := 39) hx hb dX4_withMark_8 (by decide) (fun _ => ?_) (fun c24 => (c24 (by decide)).elim)
        refine lv_iload_n hx hb dX4_withMark_39 rfl (lv_at hl 1 rfl) ?_
        exact W.iret hx hb hr (fun t ht _ => ⟨_, rfl, rfl, ht⟩) (fun _ h => absurd h List.not_mem_nil) dX4_withMark_40
    · skip
      refine lv_iconst (v := nI 1) hx hb dX4_withMark_23 (by decide) ?_
      refine lv_iload hx hb dX4_withMark_24 (lv_at hl 0 rfl) ?_
      refine lv_ishl hx hb dX4_withMark_26 ?_
      refine lv_goto (tgt := 31) hx hb dX4_withMark_27 (by decide) ?_
      refine lv_ior hx hb dX4_withMark_31 ?_
      refine lv_topi (fun x25 e26 => ?_)
      obtain rfl : x25 = nI (pm_wm (S 4 f) v 2) := e26.trans ((by first | exact pm_wm_p (n := 1) (by decide) (by assumption) | exact pm_wm_n (n := 1) (by decide) (by assumption)))
      refine lv_istore_n (lv' := [(3, .int (nI (pm_wm (S 4 f) v 2))), (4, .int (nI 1)), (0, .ref (q 0)), (1, .int (nI f)), (2, .int (nI v))]) hx hb dX4_withMark_32 rfl hl (by decide) rfl (fun ls hl => ?_)
      refine lv_iinc (v := nI 2) (lv' := [(4, .int (nI 2)), (3, .int (nI (pm_wm (S 4 f) v 2))), (0, .ref (q 0)), (1, .int (nI f)), (2, .int (nI v))]) hx hb dX4_withMark_33 hl (k := 1) rfl (by decide) (by decide) rfl (fun ls hl => ?_)
      refine lv_goto (tgt := 5) hx hb dX4_withMark_36 (by decide) ?_
      refine lv_iload hx hb dX4_withMark_5 (lv_at hl 0 rfl) ?_
      refine lv_iconst (v := nI 3) hx hb dX4_withMark_7 (by decide) ?_
      refine lv_icmp_ge (tgt := 39) hx hb dX4_withMark_8 (by decide) (fun c27 => absurd c27 (by decide)) (fun _ => ?_)
      refine lv_iload_n hx hb dX4_withMark_11 rfl (lv_at hl 1 rfl) ?_
      refine lv_aload_n hx hb dX4_withMark_12 rfl (lv_at hl 2 rfl) ?_
      refine lv_iload hx hb dX4_withMark_13 (lv_at hl 0 rfl) ?_
      refine lv_iload_n hx hb dX4_withMark_15 rfl (lv_at hl 3 rfl) ?_
      refine vp_callSi (W.runV (As := [.int (nI 2), .int (nI f)]) (rest := [.int (nI (pm_wm (S 4 f) v 2))]) ⟨hx, hb, hml, hown, hts⟩ (k_X4_markOf l D y q S gp gs kn ln sv pd 2 f ho (by omega) (by omega)) (cwV 2 hts gX4_withMark_X4_markOf rfl rfl rfl hd_X4_markOf ⟨Nat.le_of_ble_eq_true rfl, Nat.le_of_ble_eq_true rfl⟩) ⟨pm_ro_blind, va_recv hK hP (ci := 4) (q0 := 0) rfl rfl, pm_ro_pre hP hK⟩ rfl rfl hl.1 rfl (lv_room (Nat.le_of_ble_eq_true rfl)) dX4_withMark_16 ⟨Nat.le_of_ble_eq_true rfl, Nat.le_of_ble_eq_true rfl⟩) (fun r28 h29 => ?_)
      obtain rfl : r28 = nI (pm_mk (S 4 f) 2) := h29
      have := pm_lt4 (S 4 f) 2
      refine lv_iload_n hx hb dX4_withMark_19 rfl (lv_at hl 4 rfl) ?_
      refine kx_icmp_ne (tgt := 30) hx hb (by omega) (by omega) dX4_withMark_20 (by decide) (fun c30 => ?_) (fun c30 => ?_)
      · skip
        refine lv_iconst (v := nI 0) hx hb dX4_withMark_30 (by decide) ?_
        refine lv_ior hx hb dX4_withMark_31 ?_
        refine lv_topi (fun x31 e32 => ?_)
        obtain rfl : x31 = nI (pm_wm (S 4 f) v 3) := e32.trans ((by first | exact pm_wm_p (n := 2) (by decide) (by assumption) | exact pm_wm_n (n := 2) (by decide) (by assumption)))
        refine lv_istore_n (lv' := [(3, .int (nI (pm_wm (S 4 f) v 3))), (4, .int (nI 2)), (0, .ref (q 0)), (1, .int (nI f)), (2, .int (nI v))]) hx hb dX4_withMark_32 rfl hl (by decide) rfl (fun ls hl => ?_)
        refine lv_iinc (v := nI 3) (lv' := [(4, .int (nI 3)), (3, .int (nI (pm_wm (S 4 f) v 3))), (0, .ref (q 0)), (1, .int (nI f)), (2, .int (nI v))]) hx hb dX4_withMark_33 hl (k := 1) rfl (by decide) (by decide) rfl (fun ls hl => ?_)
        refine lv_goto (tgt := 5) hx hb dX4_withMark_36 (by decide) ?_
        refine lv_iload hx hb dX4_withMark_5 (lv_at hl 0 rfl) ?_
        refine lv_iconst (v := nI 3) hx hb dX4_withMark_7 (by decide) ?_
        refine lv_icmp_ge (tgt := 39) hx hb dX4_withMark_8 (by decide) (fun _ => ?_) (fun c33 => (c33 (by decide)).elim)
        refine lv_iload_n hx hb dX4_withMark_39 rfl (lv_at hl 1 rfl) ?_
        exact W.iret hx hb hr (fun t ht _ => ⟨_, rfl, rfl, ht⟩) (fun _ h => absurd h List.not_mem_nil) dX4_withMark_40
      · skip
        refine lv_iconst (v := nI 1) hx hb dX4_withMark_23 (by decide) ?_
        refine lv_iload hx hb dX4_withMark_24 (lv_at hl 0 rfl) ?_
        refine lv_ishl hx hb dX4_withMark_26 ?_
        refine lv_goto (tgt := 31) hx hb dX4_withMark_27 (by decide) ?_
        refine lv_ior hx hb dX4_withMark_31 ?_
        refine lv_topi (fun x34 e35 => ?_)
        obtain rfl : x34 = nI (pm_wm (S 4 f) v 3) := e35.trans ((by first | exact pm_wm_p (n := 2) (by decide) (by assumption) | exact pm_wm_n (n := 2) (by decide) (by assumption)))
        refine lv_istore_n (lv' := [(3, .int (nI (pm_wm (S 4 f) v 3))), (4, .int (nI 2)), (0, .ref (q 0)), (1, .int (nI f)), (2, .int (nI v))]) hx hb dX4_withMark_32 rfl hl (by decide) rfl (fun ls hl => ?_)
        refine lv_iinc (v := nI 3) (lv' := [(4, .int (nI 3)), (3, .int (nI (pm_wm (S 4 f) v 3))), (0, .ref (q 0)), (1, .int (nI f)), (2, .int (nI v))]) hx hb dX4_withMark_33 hl (k := 1) rfl (by decide) (by decide) rfl (fun ls hl => ?_)
        refine lv_goto (tgt := 5) hx hb dX4_withMark_36 (by decide) ?_
        refine lv_iload hx hb dX4_withMark_5 (lv_at hl 0 rfl) ?_
        refine lv_iconst (v := nI 3) hx hb dX4_withMark_7 (by decide) ?_
        refine lv_icmp_ge (tgt := 39) hx hb dX4_withMark_8 (by decide) (fun _ => ?_) (fun c36 => (c36 (by decide)).elim)
        refine lv_iload_n hx hb dX4_withMark_39 rfl (lv_at hl 1 rfl) ?_
        exact W.iret hx hb hr (fun t ht _ => ⟨_, rfl, rfl, ht⟩) (fun _ h => absurd h List.not_mem_nil) dX4_withMark_40
  · skip
    refine lv_iconst (v := nI 1) hx hb dX4_withMark_23 (by decide) ?_
    refine lv_iload hx hb dX4_withMark_24 (lv_at hl 0 rfl) ?_
    refine lv_ishl hx hb dX4_withMark_26 ?_
    refine lv_goto (tgt := 31) hx hb dX4_withMark_27 (by decide) ?_
    refine lv_ior hx hb dX4_withMark_31 ?_
    refine lv_topi (fun x37 e38 => ?_)
    obtain rfl : x37 = nI (pm_wm (S 4 f) v 1) := e38.trans ((by first | exact pm_wm_p (n := 0) (by decide) (by assumption) | exact pm_wm_n (n := 0) (by decide) (by assumption)))
    refine lv_istore_n (lv' := [(3, .int (nI (pm_wm (S 4 f) v 1))), (4, .int (nI 0)), (0, .ref (q 0)), (1, .int (nI f)), (2, .int (nI v))]) hx hb dX4_withMark_32 rfl hl (by decide) rfl (fun ls hl => ?_)
    refine lv_iinc (v := nI 1) (lv' := [(4, .int (nI 1)), (3, .int (nI (pm_wm (S 4 f) v 1))), (0, .ref (q 0)), (1, .int (nI f)), (2, .int (nI v))]) hx hb dX4_withMark_33 hl (k := 1) rfl (by decide) (by decide) rfl (fun ls hl => ?_)
    refine lv_goto (tgt := 5) hx hb dX4_withMark_36 (by decide) ?_
    refine lv_iload hx hb dX4_withMark_5 (lv_at hl 0 rfl) ?_
    refine lv_iconst (v := nI 3) hx hb dX4_withMark_7 (by decide) ?_
    refine lv_icmp_ge (tgt := 39) hx hb dX4_withMark_8 (by decide) (fun c39 => absurd c39 (by decide)) (fun _ => ?_)
    refine lv_iload_n hx hb dX4_withMark_11 rfl (lv_at hl 1 rfl) ?_
    refine lv_aload_n hx hb dX4_withMark_12 rfl (lv_at hl 2 rfl) ?_
    refine lv_iload hx hb dX4_withMark_13 (lv_at hl 0 rfl) ?_
    refine lv_iload_n hx hb dX4_withMark_15 rfl (lv_at hl 3 rfl) ?_
    refine vp_callSi (W.runV (As := [.int (nI 1), .int (nI f)]) (rest := [.int (nI (pm_wm (S 4 f) v 1))]) ⟨hx, hb, hml, hown, hts⟩ (k_X4_markOf l D y q S gp gs kn ln sv pd 1 f ho (by omega) (by omega)) (cwV 2 hts gX4_withMark_X4_markOf rfl rfl rfl hd_X4_markOf ⟨Nat.le_of_ble_eq_true rfl, Nat.le_of_ble_eq_true rfl⟩) ⟨pm_ro_blind, va_recv hK hP (ci := 4) (q0 := 0) rfl rfl, pm_ro_pre hP hK⟩ rfl rfl hl.1 rfl (lv_room (Nat.le_of_ble_eq_true rfl)) dX4_withMark_16 ⟨Nat.le_of_ble_eq_true rfl, Nat.le_of_ble_eq_true rfl⟩) (fun r40 h41 => ?_)
    obtain rfl : r40 = nI (pm_mk (S 4 f) 1) := h41
    have := pm_lt4 (S 4 f) 1
    refine lv_iload_n hx hb dX4_withMark_19 rfl (lv_at hl 4 rfl) ?_
    refine kx_icmp_ne (tgt := 30) hx hb (by omega) (by omega) dX4_withMark_20 (by decide) (fun c42 => ?_) (fun c42 => ?_)
    · skip
      refine lv_iconst (v := nI 0) hx hb dX4_withMark_30 (by decide) ?_
      refine lv_ior hx hb dX4_withMark_31 ?_
      refine lv_topi (fun x43 e44 => ?_)
      obtain rfl : x43 = nI (pm_wm (S 4 f) v 2) := e44.trans ((by first | exact pm_wm_p (n := 1) (by decide) (by assumption) | exact pm_wm_n (n := 1) (by decide) (by assumption)))
      refine lv_istore_n (lv' := [(3, .int (nI (pm_wm (S 4 f) v 2))), (4, .int (nI 1)), (0, .ref (q 0)), (1, .int (nI f)), (2, .int (nI v))]) hx hb dX4_withMark_32 rfl hl (by decide) rfl (fun ls hl => ?_)
      refine lv_iinc (v := nI 2) (lv' := [(4, .int (nI 2)), (3, .int (nI (pm_wm (S 4 f) v 2))), (0, .ref (q 0)), (1, .int (nI f)), (2, .int (nI v))]) hx hb dX4_withMark_33 hl (k := 1) rfl (by decide) (by decide) rfl (fun ls hl => ?_)
      refine lv_goto (tgt := 5) hx hb dX4_withMark_36 (by decide) ?_
      refine lv_iload hx hb dX4_withMark_5 (lv_at hl 0 rfl) ?_
      refine lv_iconst (v := nI 3) hx hb dX4_withMark_7 (by decide) ?_
      refine lv_icmp_ge (tgt := 39) hx hb dX4_withMark_8 (by decide) (fun c45 => absurd c45 (by decide)) (fun _ => ?_)
      refine lv_iload_n hx hb dX4_withMark_11 rfl (lv_at hl 1 rfl) ?_
      refine lv_aload_n hx hb dX4_withMark_12 rfl (lv_at hl 2 rfl) ?_
      refine lv_iload hx hb dX4_withMark_13 (lv_at hl 0 rfl) ?_
      refine lv_iload_n hx hb dX4_withMark_15 rfl (lv_at hl 3 rfl) ?_
      refine vp_callSi (W.runV (As := [.int (nI 2), .int (nI f)]) (rest := [.int (nI (pm_wm (S 4 f) v 2))]) ⟨hx, hb, hml, hown, hts⟩ (k_X4_markOf l D y q S gp gs kn ln sv pd 2 f ho (by omega) (by omega)) (cwV 2 hts gX4_withMark_X4_markOf rfl rfl rfl hd_X4_markOf ⟨Nat.le_of_ble_eq_true rfl, Nat.le_of_ble_eq_true rfl⟩) ⟨pm_ro_blind, va_recv hK hP (ci := 4) (q0 := 0) rfl rfl, pm_ro_pre hP hK⟩ rfl rfl hl.1 rfl (lv_room (Nat.le_of_ble_eq_true rfl)) dX4_withMark_16 ⟨Nat.le_of_ble_eq_true rfl, Nat.le_of_ble_eq_true rfl⟩) (fun r46 h47 => ?_)
      obtain rfl : r46 = nI (pm_mk (S 4 f) 2) := h47
      have := pm_lt4 (S 4 f) 2
      refine lv_iload_n hx hb dX4_withMark_19 rfl (lv_at hl 4 rfl) ?_
      refine kx_icmp_ne (tgt := 30) hx hb (by omega) (by omega) dX4_withMark_20 (by decide) (fun c48 => ?_) (fun c48 => ?_)
      · skip
        refine lv_iconst (v := nI 0) hx hb dX4_withMark_30 (by decide) ?_
        refine lv_ior hx hb dX4_withMark_31 ?_
        refine lv_topi (fun x49 e50 => ?_)
        obtain rfl : x49 = nI (pm_wm (S 4 f) v 3) := e50.trans ((by first | exact pm_wm_p (n := 2) (by decide) (by assumption) | exact pm_wm_n (n := 2) (by decide) (by assumption)))
        refine lv_istore_n (lv' := [(3, .int (nI (pm_wm (S 4 f) v 3))), (4, .int (nI 2)), (0, .ref (q 0)), (1, .int (nI f)), (2, .int (nI v))]) hx hb dX4_withMark_32 rfl hl (by decide) rfl (fun ls hl => ?_)
        refine lv_iinc (v := nI 3) (lv' := [(4, .int (nI 3)), (3, .int (nI (pm_wm (S 4 f) v 3))), (0, .ref (q 0)), (1, .int (nI f)), (2, .int (nI v))]) hx hb dX4_withMark_33 hl (k := 1) rfl (by decide) (by decide) rfl (fun ls hl => ?_)
        refine lv_goto (tgt := 5) hx hb dX4_withMark_36 (by decide) ?_
        refine lv_iload hx hb dX4_withMark_5 (lv_at hl 0 rfl) ?_
        refine lv_iconst (v := nI 3) hx hb dX4_withMark_7 (by decide) ?_
        refine lv_icmp_ge (tgt := 39) hx hb dX4_withMark_8 (by decide) (fun _ => ?_) (fun c51 => (c51 (by decide)).elim)
        refine lv_iload_n hx hb dX4_withMark_39 rfl (lv_at hl 1 rfl) ?_
        exact W.iret hx hb hr (fun t ht _ => ⟨_, rfl, rfl, ht⟩) (fun _ h => absurd h List.not_mem_nil) dX4_withMark_40
      · skip
        refine lv_iconst (v := nI 1) hx hb dX4_withMark_23 (by decide) ?_
        refine lv_iload hx hb dX4_withMark_24 (lv_at hl 0 rfl) ?_
        refine lv_ishl hx hb dX4_withMark_26 ?_
        refine lv_goto (tgt := 31) hx hb dX4_withMark_27 (by decide) ?_
        refine lv_ior hx hb dX4_withMark_31 ?_
        refine lv_topi (fun x52 e53 => ?_)
        obtain rfl : x52 = nI (pm_wm (S 4 f) v 3) := e53.trans ((by first | exact pm_wm_p (n := 2) (by decide) (by assumption) | exact pm_wm_n (n := 2) (by decide) (by assumption)))
        refine lv_istore_n (lv' := [(3, .int (nI (pm_wm (S 4 f) v 3))), (4, .int (nI 2)), (0, .ref (q 0)), (1, .int (nI f)), (2, .int (nI v))]) hx hb dX4_withMark_32 rfl hl (by decide) rfl (fun ls hl => ?_)
        refine lv_iinc (v := nI 3) (lv' := [(4, .int (nI 3)), (3, .int (nI (pm_wm (S 4 f) v 3))), (0, .ref (q 0)), (1, .int (nI f)), (2, .int (nI v))]) hx hb dX4_withMark_33 hl (k := 1) rfl (by decide) (by decide) rfl (fun ls hl => ?_)
        refine lv_goto (tgt := 5) hx hb dX4_withMark_36 (by decide) ?_
        refine lv_iload hx hb dX4_withMark_5 (lv_at hl 0 rfl) ?_
        refine lv_iconst (v := nI 3) hx hb dX4_withMark_7 (by decide) ?_
        refine lv_icmp_ge (tgt := 39) hx hb dX4_withMark_8 (by decide) (fun _ => ?_) (fun c54 => (c54 (by decide)).elim)
        refine lv_iload_n hx hb dX4_withMark_39 rfl (lv_at hl 1 rfl) ?_
        exact W.iret hx hb hr (fun t ht _ => ⟨_, rfl, rfl, ht⟩) (fun _ h => absurd h List.not_mem_nil) dX4_withMark_40
    · skip
      refine lv_iconst (v := nI 1) hx hb dX4_withMark_23 (by decide) ?_
      refine lv_iload hx hb dX4_withMark_24 (lv_at hl 0 rfl) ?_
      refine lv_ishl hx hb dX4_withMark_26 ?_
      refine lv_goto (tgt := 31) hx hb dX4_withMark_27 (by decide) ?_
      refine lv_ior hx hb dX4_withMark_31 ?_
      refine lv_topi (fun x55 e56 => ?_)
      obtain rfl : x55 = nI (pm_wm (S 4 f) v 2) := e56.trans ((by first | exact pm_wm_p (n := 1) (by decide) (by assumption) | exact pm_wm_n (n := 1) (by decide) (by assumption)))
      refine lv_istore_n (lv' := [(3, .int (nI (pm_wm (S 4 f) v 2))), (4, .int (nI 1)), (0, .ref (q 0)), (1, .int (nI f)), (2, .int (nI v))]) hx hb dX4_withMark_32 rfl hl (by decide) rfl (fun ls hl => ?_)
      refine lv_iinc (v := nI 2) (lv' := [(4, .int (nI 2)), (3, .int (nI (pm_wm (S 4 f) v 2))), (0, .ref (q 0)), (1, .int (nI f)), (2, .int (nI v))]) hx hb dX4_withMark_33 hl (k := 1) rfl (by decide) (by decide) rfl (fun ls hl => ?_)
      refine lv_goto (tgt := 5) hx hb dX4_withMark_36 (by decide) ?_
      refine lv_iload hx hb dX4_withMark_5 (lv_at hl 0 rfl) ?_
      refine lv_iconst (v := nI 3) hx hb dX4_withMark_7 (by decide) ?_
      refine lv_icmp_ge (tgt := 39) hx hb dX4_withMark_8 (by decide) (fun c57 => absurd c57 (by decide)) (fun _ => ?_)
      refine lv_iload_n hx hb dX4_withMark_11 rfl (lv_at hl 1 rfl) ?_
      refine lv_aload_n hx hb dX4_withMark_12 rfl (lv_at hl 2 rfl) ?_
      refine lv_iload hx hb dX4_withMark_13 (lv_at hl 0 rfl) ?_
      refine lv_iload_n hx hb dX4_withMark_15 rfl (lv_at hl 3 rfl) ?_
      refine vp_callSi (W.runV (As := [.int (nI 2), .int (nI f)]) (rest := [.int (nI (pm_wm (S 4 f) v 2))]) ⟨hx, hb, hml, hown, hts⟩ (k_X4_markOf l D y q S gp gs kn ln sv pd 2 f ho (by omega) (by omega)) (cwV 2 hts gX4_withMark_X4_markOf rfl rfl rfl hd_X4_markOf ⟨Nat.le_of_ble_eq_true rfl, Nat.le_of_ble_eq_true rfl⟩) ⟨pm_ro_blind, va_recv hK hP (ci := 4) (q0 := 0) rfl rfl, pm_ro_pre hP hK⟩ rfl rfl hl.1 rfl (lv_room (Nat.le_of_ble_eq_true rfl)) dX4_withMark_16 ⟨Nat.le_of_ble_eq_true rfl, Nat.le_of_ble_eq_true rfl⟩) (fun r58 h59 => ?_)
      obtain rfl : r58 = nI (pm_mk (S 4 f) 2) := h59
      have := pm_lt4 (S 4 f) 2
      refine lv_iload_n hx hb dX4_withMark_19 rfl (lv_at hl 4 rfl) ?_
      refine kx_icmp_ne (tgt := 30) hx hb (by omega) (by omega) dX4_withMark_20 (by decide) (fun c60 => ?_) (fun c60 => ?_)
      · skip
        refine lv_iconst (v := nI 0) hx hb dX4_withMark_30 (by decide) ?_
        refine lv_ior hx hb dX4_withMark_31 ?_
        refine lv_topi (fun x61 e62 => ?_)
        obtain rfl : x61 = nI (pm_wm (S 4 f) v 3) := e62.trans ((by first | exact pm_wm_p (n := 2) (by decide) (by assumption) | exact pm_wm_n (n := 2) (by decide) (by assumption)))
        refine lv_istore_n (lv' := [(3, .int (nI (pm_wm (S 4 f) v 3))), (4, .int (nI 2)), (0, .ref (q 0)), (1, .int (nI f)), (2, .int (nI v))]) hx hb dX4_withMark_32 rfl hl (by decide) rfl (fun ls hl => ?_)
        refine lv_iinc (v := nI 3) (lv' := [(4, .int (nI 3)), (3, .int (nI (pm_wm (S 4 f) v 3))), (0, .ref (q 0)), (1, .int (nI f)), (2, .int (nI v))]) hx hb dX4_withMark_33 hl (k := 1) rfl (by decide) (by decide) rfl (fun ls hl => ?_)
        refine lv_goto (tgt := 5) hx hb dX4_withMark_36 (by decide) ?_
        refine lv_iload hx hb dX4_withMark_5 (lv_at hl 0 rfl) ?_
        refine lv_iconst (v := nI 3) hx hb dX4_withMark_7 (by decide) ?_
        refine lv_icmp_ge (tgt := 39) hx hb dX4_withMark_8 (by decide) (fun _ => ?_) (fun c63 => (c63 (by decide)).elim)
        refine lv_iload_n hx hb dX4_withMark_39 rfl (lv_at hl 1 rfl) ?_
        exact W.iret hx hb hr (fun t ht _ => ⟨_, rfl, rfl, ht⟩) (fun _ h => absurd h List.not_mem_nil) dX4_withMark_40
      · skip
        refine lv_iconst (v := nI 1) hx hb dX4_withMark_23 (by decide) ?_
        refine lv_iload hx hb dX4_withMark_24 (lv_at hl 0 rfl) ?_
        refine lv_ishl hx hb dX4_withMark_26 ?_
        refine lv_goto (tgt := 31) hx hb dX4_withMark_27 (by decide) ?_
        refine lv_ior hx hb dX4_withMark_31 ?_
        refine lv_topi (fun x64 e65 => ?_)
        obtain rfl : x64 = nI (pm_wm (S 4 f) v 3) := e65.trans ((by first | exact pm_wm_p (n := 2) (by decide) (by assumption) | exact pm_wm_n (n := 2) (by decide) (by assumption)))
        refine lv_istore_n (lv' := [(3, .int (nI (pm_wm (S 4 f) v 3))), (4, .int (nI 2)), (0, .ref (q 0)), (1, .int (nI f)), (2, .int (nI v))]) hx hb dX4_withMark_32 rfl hl (by decide) rfl (fun ls hl => ?_)
        refine lv_iinc (v := nI 3) (lv' := [(4, .int (nI 3)), (3, .int (nI (pm_wm (S 4 f) v 3))), (0, .ref (q 0)), (1, .int (nI f)), (2, .int (nI v))]) hx hb dX4_withMark_33 hl (k := 1) rfl (by decide) (by decide) rfl (fun ls hl => ?_)
        refine lv_goto (tgt := 5) hx hb dX4_withMark_36 (by decide) ?_
        refine lv_iload hx hb dX4_withMark_5 (lv_at hl 0 rfl) ?_
        refine lv_iconst (v := nI 3) hx hb dX4_withMark_7 (by decide) ?_
        refine lv_icmp_ge (tgt := 39) hx hb dX4_withMark_8 (by decide) (fun _ => ?_) (fun c66 => (c66 (by decide)).elim)
        refine lv_iload_n hx hb dX4_withMark_39 rfl (lv_at hl 1 rfl) ?_
        exact W.iret hx hb hr (fun t ht _ => ⟨_, rfl, rfl, ht⟩) (fun _ h => absurd h List.not_mem_nil) dX4_withMark_40

set_option maxHeartbeats 4000000 in
set_option maxRecDepth 100000 in
theorem k_X4_marked (l : Launch) (D : va_G) (y : Nat → ClassId) (q : Nat → Nat) (S : Nat → Nat → Nat) (gp gs : Nat → Int32) (kn ln : Nat) (sv pd : Nat → Nat) (i v : Nat) (hI : pm_Inv S) (hi : i < 3) (hv : v < 3) : Met l yX4_marked wsX4_marked ({ frames := 2, cells := 0, slots := 0, locals := 43 } : Room) (pm_ro D (pm_ty y) [.ref (q 0), .int (nI i), .int (nI v)] (pm_mo y q S gp gs kn ln sv pd)) (vp_Si (fun r : Int32 => r = nI (pm_cnt S i v 30))) 0 0 (fun _ => False) := by
  refine Met.ofW (cc := cX4_marked) (maxL := 5) (ret := (some .int)) (by decide) rfl ?_
  intro p e s m args below meth c s₁ B hml hpre
  obtain ⟨rfl, hP, hK⟩ := hpre
  have hx := B.exec
  have hb := B.bytes
  have hr := B.returns
  have hts := atoms_spec (ws := wsX4_marked) B.pre
  have hown : s.vm.findClass RX4 = some m.cls := findClass_of_methodNamed B.named
  have hlocks := B.notSynchronized
  have hin4 : ∀ w ∈ u_ws RX4 TX4 7, w ∈ wsX4_marked := fun w h => List.mem_cons_of_mem _ (List.mem_append_right _ h)
  have hP : va_P D vwCl (pm_mo y q S gp gs kn ln sv pd) s.heap := hP
  have hl := lv_entry ([.ref (q 0), .int (nI i), .int (nI v)]) (n := 5) (Nat.le_of_ble_eq_true rfl)
  rw [lg_entry_eq]
  generalize (lg_sl ([.ref (q 0), .int (nI i), .int (nI v)]) ++ List.replicate (5 - (lg_sl ([.ref (q 0), .int (nI i), .int (nI v)])).length) Slot.unset).toArray = ls at hl ⊢
  have hl : lv_has ls 5 [(0, .ref (q 0)), (1, .int (nI i)), (2, .int (nI v))] := hl
  refine lv_iconst (v := nI 0) hx hb dX4_marked_0 (by decide) ?_
  refine lv_istore_n (lv' := [(3, .int (nI 0)), (0, .ref (q 0)), (1, .int (nI i)), (2, .int (nI v))]) hx hb dX4_marked_1 rfl hl (by decide) rfl (fun ls hl => ?_)
  refine lv_iconst (v := nI 0) hx hb dX4_marked_2 (by decide) ?_
  refine lv_istore (lv' := [(4, .int (nI 0)), (3, .int (nI 0)), (0, .ref (q 0)), (1, .int (nI i)), (2, .int (nI v))]) hx hb dX4_marked_3 hl (by decide) rfl (fun ls hl => ?_)
  have LOOP5 : ∀ (n k : Nat) (ls : Array Slot), k ≤ 30 → 30 - k < n → lv_has ls 5 [(0, .ref (q 0)), (1, .int (nI i)), (2, .int (nI v)), (3, .int (nI (pm_cnt S i v k))), (4, .int (nI k))] → W p l e (headSpec wsX4_marked ({ frames := 2, cells := 0, slots := 0, locals := 43 } : Room)).room s m ([.ref (q 0), .int (nI i), .int (nI v)] : List Value).toArray below meth c s.heap [] 0 0 (MQ below (vp_Si (fun r : Int32 => r = nI (pm_cnt S i v 30))) ([.ref (q 0), .int (nI i), .int (nI v)] : List Value).toArray s 0 0 (fun _ => False)) (F0 m 5 ls []) := by
    intro n
    induction n with
    | zero => intro k _ hi hn; omega
    | succ n ih1 =>
      intro k ls hi_k hn_k hl 
      refine lv_iload hx hb dX4_marked_5 (lv_at hl 4 rfl) ?_
      refine lv_bipush (v := nI 30) hx hb dX4_marked_7 (by decide) ?_
      refine kx_icmp_ge (tgt := 37) hx hb (by omega) (by decide) dX4_marked_9 (by decide) (fun c2 => ?_) (fun c2 => ?_)
      · skip
        refine lv_iload_n hx hb dX4_marked_37 rfl (lv_at hl 3 rfl) ?_
        exact W.iret hx hb hr (fun t ht _ => ⟨_, rfl, (by rw [show k = 30 by omega]), ht⟩) (fun _ h => absurd h List.not_mem_nil) dX4_marked_38
      · skip
        refine lv_iload_n hx hb dX4_marked_12 rfl (lv_at hl 3 rfl) ?_
        refine lv_aload_n hx hb dX4_marked_13 rfl (lv_at hl 0 rfl) ?_
        refine lv_iload_n hx hb dX4_marked_14 rfl (lv_at hl 1 rfl) ?_
        refine lv_iload hx hb dX4_marked_15 (lv_at hl 4 rfl) ?_
        refine vp_callSi (W.runV (As := [.int (nI i), .int (nI k)]) (rest := [.int (nI (pm_cnt S i v k))]) ⟨hx, hb, hml, hown, hts⟩ (k_X4_markOf l D y q S gp gs kn ln sv pd i k (hI.okm k (by omega)) (by omega) (by omega)) (cwV 2 hts gX4_marked_X4_markOf rfl rfl rfl hd_X4_markOf ⟨Nat.le_of_ble_eq_true rfl, Nat.le_of_ble_eq_true rfl⟩) ⟨pm_ro_blind, va_recv hK hP (ci := 4) (q0 := 0) rfl rfl, pm_ro_pre hP hK⟩ rfl rfl hl.1 rfl (lv_room (Nat.le_of_ble_eq_true rfl)) dX4_marked_17 ⟨Nat.le_of_ble_eq_true rfl, Nat.le_of_ble_eq_true rfl⟩) (fun r3 h4 => ?_)
        obtain rfl : r3 = nI (pm_mk (S 4 k) i) := h4
        have := pm_lt4 (S 4 k) i
        refine lv_iload_n hx hb dX4_marked_20 rfl (lv_at hl 2 rfl) ?_
        refine kx_icmp_ne (tgt := 28) hx hb (by omega) (by omega) dX4_marked_21 (by decide) (fun c5 => ?_) (fun c5 => ?_)
        · skip
          refine lv_iconst (v := nI 0) hx hb dX4_marked_28 (by decide) ?_
          refine kx_iadd hx hb dX4_marked_29 ?_
          refine lv_istore_n (lv' := [(3, .int (nI ((pm_cnt S i v k) + 0))), (0, .ref (q 0)), (1, .int (nI i)), (2, .int (nI v)), (4, .int (nI k))]) hx hb dX4_marked_30 rfl hl (by decide) rfl (fun ls hl => ?_)
          refine kx_iinc (a := k) (lv' := [(4, .int (nI (k + 1))), (3, .int (nI ((pm_cnt S i v k) + 0))), (0, .ref (q 0)), (1, .int (nI i)), (2, .int (nI v))]) hx hb dX4_marked_31 hl (k := 4) rfl (by decide) rfl (fun ls hl => ?_)
          refine lv_goto (tgt := 5) hx hb dX4_marked_34 (by decide) ?_
          have q6 : (nI (pm_cnt S i v (k + 1)) : Int32) = nI ((pm_cnt S i v k) + 0) := (by first | exact congrArg nI (pm_cnt_p (by assumption)) | exact congrArg nI (pm_cnt_n (by assumption)))
          exact ih1 (k + 1) ls (by omega) (by omega) (by rw [q6]; exact lv_sub hl [2, 3, 4, 1, 0] rfl) 
        · skip
          refine lv_iconst (v := nI 1) hx hb dX4_marked_24 (by decide) ?_
          refine lv_goto (tgt := 29) hx hb dX4_marked_25 (by decide) ?_
          refine kx_iadd hx hb dX4_marked_29 ?_
          refine lv_istore_n (lv' := [(3, .int (nI ((pm_cnt S i v k) + 1))), (0, .ref (q 0)), (1, .int (nI i)), (2, .int (nI v)), (4, .int (nI k))]) hx hb dX4_marked_30 rfl hl (by decide) rfl (fun ls hl => ?_)
          refine kx_iinc (a := k) (lv' := [(4, .int (nI (k + 1))), (3, .int (nI ((pm_cnt S i v k) + 1))), (0, .ref (q 0)), (1, .int (nI i)), (2, .int (nI v))]) hx hb dX4_marked_31 hl (k := 4) rfl (by decide) rfl (fun ls hl => ?_)
          refine lv_goto (tgt := 5) hx hb dX4_marked_34 (by decide) ?_
          have q7 : (nI (pm_cnt S i v (k + 1)) : Int32) = nI ((pm_cnt S i v k) + 1) := (by first | exact congrArg nI (pm_cnt_p (by assumption)) | exact congrArg nI (pm_cnt_n (by assumption)))
          exact ih1 (k + 1) ls (by omega) (by omega) (by rw [q7]; exact lv_sub hl [2, 3, 4, 1, 0] rfl) 
  exact LOOP5 (30 + 1) 0 ls (by omega) (by omega) (lv_sub hl [2, 3, 4, 1, 0] rfl) 

set_option maxHeartbeats 4000000 in
set_option maxRecDepth 100000 in
theorem k_X4_isOpen (l : Launch) (D : va_G) (y : Nat → ClassId) (q : Nat → Nat) (S : Nat → Nat → Nat) (gp gs : Nat → Int32) (kn ln : Nat) (sv pd : Nat → Nat) (f : Nat) (hh : S 0 f < 4) (hf : f < 30) : Met l yX4_isOpen wsX4_isOpen ({ frames := 1, cells := 0, slots := 0, locals := 21 } : Room) (pm_ro D (pm_ty y) [.ref (q 0), .int (nI f)] (pm_mo y q S gp gs kn ln sv pd)) (vp_Si (fun r : Int32 => ((S 0 f = 0) ∧ r = nI 1) ∨ (¬ (S 0 f = 0) ∧ r = nI 0))) 0 0 (fun _ => False) := by
  refine Met.ofW (cc := cX4_isOpen) (maxL := 2) (ret := (some .boolean)) (by decide) rfl ?_
  intro p e s m args below meth c s₁ B hml hpre
  obtain ⟨rfl, hP, hK⟩ := hpre
  have hx := B.exec
  have hb := B.bytes
  have hr := B.returns
  have hts := atoms_spec (ws := wsX4_isOpen) B.pre
  have hown : s.vm.findClass RX4 = some m.cls := findClass_of_methodNamed B.named
  have hlocks := B.notSynchronized
  have hin4 : ∀ w ∈ u_ws RX4 TX4 7, w ∈ wsX4_isOpen := fun w h => List.mem_cons_of_mem _ (List.mem_append_right _ h)
  have hP : va_P D vwCl (pm_mo y q S gp gs kn ln sv pd) s.heap := hP
  have hl := lv_entry ([.ref (q 0), .int (nI f)]) (n := 2) (Nat.le_of_ble_eq_true rfl)
  rw [lg_entry_eq]
  generalize (lg_sl ([.ref (q 0), .int (nI f)]) ++ List.replicate (2 - (lg_sl ([.ref (q 0), .int (nI f)])).length) Slot.unset).toArray = ls at hl ⊢
  have hl : lv_has ls 2 [(0, .ref (q 0)), (1, .int (nI f))] := hl
  refine lv_aload_n hx hb dX4_isOpen_0 rfl (lv_at hl 0 rfl) ?_
  refine va_get (D := D) (ci := 4) (v := .ref (q 1)) (C := RX4) (T := TX4) (N := 7) hx hb hts hin4 hown hK hP 0 rfl rfl 0 (by decide) (hts (.fieldLink RX4 7 "ProofMarksModel" "s" "[I") (List.mem_of_getElem? (i := 1) rfl)) (fun _ h9 => h9) rfl dX4_isOpen_1 ?_
  refine lv_iload_n hx hb dX4_isOpen_4 rfl (lv_at hl 1 rfl) ?_
  refine lv_iconst (v := nI 0) hx hb dX4_isOpen_5 (by decide) ?_
  refine vp_callSi (W.runS (As := [.int (nI f), .int (nI 0)]) (rest := [.ref (q 1)]) ⟨hx, hb, hml, hown, hts⟩ (k_X4_at l f 0) (va_cwS 2 hts gX4_isOpen_X4_at rfl rfl rfl hd_X4_at ⟨Nat.le_of_ble_eq_true rfl, Nat.le_of_ble_eq_true rfl⟩) ⟨pm_no_blind, pm_no_pre⟩ rfl rfl hl.1 rfl (lv_room (Nat.le_of_ble_eq_true rfl)) dX4_isOpen_6 ⟨Nat.le_of_ble_eq_true rfl, Nat.le_of_ble_eq_true rfl⟩) (fun r1 h2 => ?_)
  obtain rfl : r1 = nI (5 * f + 0) := h2
  refine kx_iald (v := nI (S 0 f)) hx hb hK hP 1 0 rfl rfl (by omega) (by decide) (pm_ms_f (S := S) (f := f) 0 (by decide) (by decide) (by omega)) dX4_isOpen_9 ?_
  refine kx_if_ne (tgt := 17) hx hb (by omega) dX4_isOpen_10 (by decide) (fun c3 => ?_) (fun c3 => ?_)
  · skip
    refine lv_iconst (v := nI 0) hx hb dX4_isOpen_17 (by decide) ?_
    exact W.zret (ty := .boolean) hx hb hr rfl (fun t ht _ => ⟨_, rfl, (Or.inr ⟨(by omega), rfl⟩), ht⟩) (fun _ h => absurd h List.not_mem_nil) dX4_isOpen_18
  · skip
    refine lv_iconst (v := nI 1) hx hb dX4_isOpen_13 (by decide) ?_
    refine lv_goto (tgt := 18) hx hb dX4_isOpen_14 (by decide) ?_
    exact W.zret (ty := .boolean) hx hb hr rfl (fun t ht _ => ⟨_, rfl, (Or.inl ⟨(by omega), rfl⟩), ht⟩) (fun _ h => absurd h List.not_mem_nil) dX4_isOpen_18

set_option maxHeartbeats 4000000 in
set_option maxRecDepth 100000 in
theorem k_X4_isTaken (l : Launch) (D : va_G) (y : Nat → ClassId) (q : Nat → Nat) (S : Nat → Nat → Nat) (gp gs : Nat → Int32) (kn ln : Nat) (sv pd : Nat → Nat) (f : Nat) (hI : pm_Inv S) (hf : f < 30) : Met l yX4_isTaken wsX4_isTaken ({ frames := 1, cells := 0, slots := 0, locals := 21 } : Room) (pm_ro D (pm_ty y) [.ref (q 0), .int (nI f)] (pm_mo y q S gp gs kn ln sv pd)) (vp_Si (fun r : Int32 => ((S 0 f = 1 ∨ S 0 f = 3) ∧ r = nI 1) ∨ (¬ (S 0 f = 1 ∨ S 0 f = 3) ∧ r = nI 0))) 0 0 (fun _ => False) := by
  refine Met.ofW (cc := cX4_isTaken) (maxL := 2) (ret := (some .boolean)) (by decide) rfl ?_
  intro p e s m args below meth c s₁ B hml hpre
  obtain ⟨rfl, hP, hK⟩ := hpre
  have hx := B.exec
  have hb := B.bytes
  have hr := B.returns
  have hts := atoms_spec (ws := wsX4_isTaken) B.pre
  have hown : s.vm.findClass RX4 = some m.cls := findClass_of_methodNamed B.named
  have hlocks := B.notSynchronized
  have hin4 : ∀ w ∈ u_ws RX4 TX4 7, w ∈ wsX4_isTaken := fun w h => List.mem_cons_of_mem _ (List.mem_append_right _ h)
  have hP : va_P D vwCl (pm_mo y q S gp gs kn ln sv pd) s.heap := hP
  have hl := lv_entry ([.ref (q 0), .int (nI f)]) (n := 2) (Nat.le_of_ble_eq_true rfl)
  rw [lg_entry_eq]
  generalize (lg_sl ([.ref (q 0), .int (nI f)]) ++ List.replicate (2 - (lg_sl ([.ref (q 0), .int (nI f)])).length) Slot.unset).toArray = ls at hl ⊢
  have hl : lv_has ls 2 [(0, .ref (q 0)), (1, .int (nI f))] := hl
  refine lv_aload_n hx hb dX4_isTaken_0 rfl (lv_at hl 0 rfl) ?_
  refine va_get (D := D) (ci := 4) (v := .ref (q 1)) (C := RX4) (T := TX4) (N := 7) hx hb hts hin4 hown hK hP 0 rfl rfl 0 (by decide) (hts (.fieldLink RX4 7 "ProofMarksModel" "s" "[I") (List.mem_of_getElem? (i := 1) rfl)) (fun _ h9 => h9) rfl dX4_isTaken_1 ?_
  refine lv_iload_n hx hb dX4_isTaken_4 rfl (lv_at hl 1 rfl) ?_
  refine lv_iconst (v := nI 0) hx hb dX4_isTaken_5 (by decide) ?_
  refine vp_callSi (W.runS (As := [.int (nI f), .int (nI 0)]) (rest := [.ref (q 1)]) ⟨hx, hb, hml, hown, hts⟩ (k_X4_at l f 0) (va_cwS 2 hts gX4_isTaken_X4_at rfl rfl rfl hd_X4_at ⟨Nat.le_of_ble_eq_true rfl, Nat.le_of_ble_eq_true rfl⟩) ⟨pm_no_blind, pm_no_pre⟩ rfl rfl hl.1 rfl (lv_room (Nat.le_of_ble_eq_true rfl)) dX4_isTaken_6 ⟨Nat.le_of_ble_eq_true rfl, Nat.le_of_ble_eq_true rfl⟩) (fun r1 h2 => ?_)
  obtain rfl : r1 = nI (5 * f + 0) := h2
  refine kx_iald (v := nI (S 0 f)) hx hb hK hP 1 0 rfl rfl (by omega) (by decide) (pm_ms_f (S := S) (f := f) 0 (by decide) (by decide) (by omega)) dX4_isTaken_9 ?_
  have := hI.how f (by omega)
  refine lv_iconst (v := nI 1) hx hb dX4_isTaken_10 (by decide) ?_
  refine kx_icmp_eq (tgt := 28) hx hb (by omega) (by decide) dX4_isTaken_11 (by decide) (fun c3 => ?_) (fun c3 => ?_)
  · skip
    refine lv_iconst (v := nI 1) hx hb dX4_isTaken_28 (by decide) ?_
    refine lv_goto (tgt := 33) hx hb dX4_isTaken_29 (by decide) ?_
    exact W.zret (ty := .boolean) hx hb hr rfl (fun t ht _ => ⟨_, rfl, (Or.inl ⟨(by omega), rfl⟩), ht⟩) (fun _ h => absurd h List.not_mem_nil) dX4_isTaken_33
  · skip
    refine lv_aload_n hx hb dX4_isTaken_14 rfl (lv_at hl 0 rfl) ?_
    refine va_get (D := D) (ci := 4) (v := .ref (q 1)) (C := RX4) (T := TX4) (N := 7) hx hb hts hin4 hown hK hP 0 rfl rfl 0 (by decide) (hts (.fieldLink RX4 7 "ProofMarksModel" "s" "[I") (List.mem_of_getElem? (i := 1) rfl)) (fun _ h9 => h9) rfl dX4_isTaken_15 ?_
    refine lv_iload_n hx hb dX4_isTaken_18 rfl (lv_at hl 1 rfl) ?_
    refine lv_iconst (v := nI 0) hx hb dX4_isTaken_19 (by decide) ?_
    refine vp_callSi (W.runS (As := [.int (nI f), .int (nI 0)]) (rest := [.ref (q 1)]) ⟨hx, hb, hml, hown, hts⟩ (k_X4_at l f 0) (va_cwS 2 hts gX4_isTaken_X4_at rfl rfl rfl hd_X4_at ⟨Nat.le_of_ble_eq_true rfl, Nat.le_of_ble_eq_true rfl⟩) ⟨pm_no_blind, pm_no_pre⟩ rfl rfl hl.1 rfl (lv_room (Nat.le_of_ble_eq_true rfl)) dX4_isTaken_20 ⟨Nat.le_of_ble_eq_true rfl, Nat.le_of_ble_eq_true rfl⟩) (fun r4 h5 => ?_)
    obtain rfl : r4 = nI (5 * f + 0) := h5
    refine kx_iald (v := nI (S 0 f)) hx hb hK hP 1 0 rfl rfl (by omega) (by decide) (pm_ms_f (S := S) (f := f) 0 (by decide) (by decide) (by omega)) dX4_isTaken_23 ?_
    have := hI.how f (by omega)
    refine lv_iconst (v := nI 3) hx hb dX4_isTaken_24 (by decide) ?_
    refine kx_icmp_ne (tgt := 32) hx hb (by omega) (by decide) dX4_isTaken_25 (by decide) (fun c6 => ?_) (fun c6 => ?_)
    · skip
      refine lv_iconst (v := nI 0) hx hb dX4_isTaken_32 (by decide) ?_
      exact W.zret (ty := .boolean) hx hb hr rfl (fun t ht _ => ⟨_, rfl, (Or.inr ⟨(by omega), rfl⟩), ht⟩) (fun _ h => absurd h List.not_mem_nil) dX4_isTaken_33
    · skip
      refine lv_iconst (v := nI 1) hx hb dX4_isTaken_28 (by decide) ?_
      refine lv_goto (tgt := 33) hx hb dX4_isTaken_29 (by decide) ?_
      exact W.zret (ty := .boolean) hx hb hr rfl (fun t ht _ => ⟨_, rfl, (Or.inl ⟨(by omega), rfl⟩), ht⟩) (fun _ h => absurd h List.not_mem_nil) dX4_isTaken_33

set_option maxHeartbeats 4000000 in
set_option maxRecDepth 100000 in
theorem k_X4_then (l : Launch) (D : va_G) (y : Nat → ClassId) (q : Nat → Nat) (S : Nat → Nat → Nat) (gp gs : Nat → Int32) (kn ln : Nat) (sv pd : Nat → Nat) (f : Nat) (ho : pm_okb (S 4 f) = true) (hs : S 9 0 ≤ 9) (hs3 : S 9 3 ≤ 9) (hd : S 1 f ≤ 99) (hf : f < 30) : Met l yX4_then wsX4_then ({ frames := 3, cells := 0, slots := 0, locals := 67 } : Room) (pm_ro D (pm_ty y) [.ref (q 0), .int (nI f)] (pm_mo y q S gp gs kn ln sv pd)) (vp_Si (fun r : Int32 => r = nI (pm_aft S f))) 0 0 (fun _ => False) := by
  refine Met.ofW (cc := cX4_then) (maxL := 5) (ret := (some .int)) (by decide) rfl ?_
  intro p e s m args below meth c s₁ B hml hpre
  obtain ⟨rfl, hP, hK⟩ := hpre
  have hx := B.exec
  have hb := B.bytes
  have hr := B.returns
  have hts := atoms_spec (ws := wsX4_then) B.pre
  have hown : s.vm.findClass RX4 = some m.cls := findClass_of_methodNamed B.named
  have hlocks := B.notSynchronized
  have hin4 : ∀ w ∈ u_ws RX4 TX4 7, w ∈ wsX4_then := fun w h => List.mem_cons_of_mem _ (List.mem_append_right _ h)
  have hP : va_P D vwCl (pm_mo y q S gp gs kn ln sv pd) s.heap := hP
  have hl := lv_entry ([.ref (q 0), .int (nI f)]) (n := 5) (Nat.le_of_ble_eq_true rfl)
  rw [lg_entry_eq]
  generalize (lg_sl ([.ref (q 0), .int (nI f)]) ++ List.replicate (5 - (lg_sl ([.ref (q 0), .int (nI f)])).length) Slot.unset).toArray = ls at hl ⊢
  have hl : lv_has ls 5 [(0, .ref (q 0)), (1, .int (nI f))] := hl
  refine lv_aload_n hx hb dX4_then_0 rfl (lv_at hl 0 rfl) ?_
  refine lv_iload_n hx hb dX4_then_1 rfl (lv_at hl 1 rfl) ?_
  refine lv_iconst (v := nI 1) hx hb dX4_then_2 (by decide) ?_
  refine vp_callSi (W.runV (As := [.int (nI f), .int (nI 1)]) (rest := []) ⟨hx, hb, hml, hown, hts⟩ (k_X4_withMark l D y q S gp gs kn ln sv pd f 1 ho (by omega) (by decide)) (cwV 2 hts gX4_then_X4_withMark rfl rfl rfl hd_X4_withMark ⟨Nat.le_of_ble_eq_true rfl, Nat.le_of_ble_eq_true rfl⟩) ⟨pm_ro_blind, va_recv hK hP (ci := 4) (q0 := 0) rfl rfl, pm_ro_pre hP hK⟩ rfl rfl hl.1 rfl (lv_room (Nat.le_of_ble_eq_true rfl)) dX4_then_3 ⟨Nat.le_of_ble_eq_true rfl, Nat.le_of_ble_eq_true rfl⟩) (fun r1 h2 => ?_)
  obtain rfl : r1 = nI (pm_tk (S 4 f)) := (show r1 = nI (pm_wm (S 4 f) 1 3) from h2).trans (congrArg nI (pm_wm_tk _))
  have := pm_tk8 (S 4 f)
  refine vp_callSi (W.runS (As := [.int (nI (pm_tk (S 4 f)))]) (rest := []) ⟨hx, hb, hml, hown, hts⟩ (k_X4_ones l (pm_tk (S 4 f)) (by omega)) (va_cwS 1 hts gX4_then_X4_ones rfl rfl rfl hd_X4_ones ⟨Nat.le_of_ble_eq_true rfl, Nat.le_of_ble_eq_true rfl⟩) ⟨pm_no_blind, pm_no_pre⟩ rfl rfl hl.1 rfl (lv_room (Nat.le_of_ble_eq_true rfl)) dX4_then_6 ⟨Nat.le_of_ble_eq_true rfl, Nat.le_of_ble_eq_true rfl⟩) (fun r3 h4 => ?_)
  obtain rfl : r3 = nI (pm_pc (pm_tk (S 4 f))) := h4
  have := pm_pc4 (pm_tk (S 4 f))
  refine lv_istore_n (lv' := [(2, .int (nI (pm_pc (pm_tk (S 4 f))))), (0, .ref (q 0)), (1, .int (nI f))]) hx hb dX4_then_9 rfl hl (by decide) rfl (fun ls hl => ?_)
  refine lv_aload_n hx hb dX4_then_10 rfl (lv_at hl 1 rfl) ?_
  refine lv_iload_n hx hb dX4_then_11 rfl (lv_at hl 2 rfl) ?_
  refine lv_iconst (v := nI 2) hx hb dX4_then_12 (by decide) ?_
  refine vp_callSi (W.runV (As := [.int (nI f), .int (nI 2)]) (rest := []) ⟨hx, hb, hml, hown, hts⟩ (k_X4_withMark l D y q S gp gs kn ln sv pd f 2 ho (by omega) (by decide)) (cwV 2 hts gX4_then_X4_withMark rfl rfl rfl hd_X4_withMark ⟨Nat.le_of_ble_eq_true rfl, Nat.le_of_ble_eq_true rfl⟩) ⟨pm_ro_blind, va_recv hK hP (ci := 4) (q0 := 0) rfl rfl, pm_ro_pre hP hK⟩ rfl rfl hl.1 rfl (lv_room (Nat.le_of_ble_eq_true rfl)) dX4_then_13 ⟨Nat.le_of_ble_eq_true rfl, Nat.le_of_ble_eq_true rfl⟩) (fun r5 h6 => ?_)
  obtain rfl : r5 = nI (pm_ck (S 4 f)) := (show r5 = nI (pm_wm (S 4 f) 2 3) from h6).trans (congrArg nI (pm_wm_ck _))
  have := pm_ck8 (S 4 f)
  refine vp_callSi (W.runS (As := [.int (nI (pm_ck (S 4 f)))]) (rest := []) ⟨hx, hb, hml, hown, hts⟩ (k_X4_ones l (pm_ck (S 4 f)) (by omega)) (va_cwS 1 hts gX4_then_X4_ones rfl rfl rfl hd_X4_ones ⟨Nat.le_of_ble_eq_true rfl, Nat.le_of_ble_eq_true rfl⟩) ⟨pm_no_blind, pm_no_pre⟩ rfl rfl hl.1 rfl (lv_room (Nat.le_of_ble_eq_true rfl)) dX4_then_16 ⟨Nat.le_of_ble_eq_true rfl, Nat.le_of_ble_eq_true rfl⟩) (fun r7 h8 => ?_)
  obtain rfl : r7 = nI (pm_pc (pm_ck (S 4 f))) := h8
  have := pm_pc4 (pm_ck (S 4 f))
  refine lv_istore_n (lv' := [(3, .int (nI (pm_pc (pm_ck (S 4 f))))), (2, .int (nI (pm_pc (pm_tk (S 4 f))))), (0, .ref (q 0)), (1, .int (nI f))]) hx hb dX4_then_19 rfl hl (by decide) rfl (fun ls hl => ?_)
  refine lv_iload_n hx hb dX4_then_20 rfl (lv_at hl 1 rfl) ?_
  refine lv_iload_n hx hb dX4_then_21 rfl (lv_at hl 0 rfl) ?_
  refine kx_iadd hx hb dX4_then_22 ?_
  refine kx_if_ne (tgt := 41) hx hb (by omega) dX4_then_23 (by decide) (fun c9 => ?_) (fun c9 => ?_)
  · skip
    refine lv_iconst (v := nI 0) hx hb dX4_then_41 (by decide) ?_
    refine lv_istore (lv' := [(4, .int (nI 0)), (3, .int (nI (pm_pc (pm_ck (S 4 f))))), (2, .int (nI (pm_pc (pm_tk (S 4 f))))), (0, .ref (q 0)), (1, .int (nI f))]) hx hb dX4_then_42 hl (by decide) rfl (fun ls hl => ?_)
    refine lv_iload_n hx hb dX4_then_44 rfl (lv_at hl 1 rfl) ?_
    refine kx_if_le (tgt := 59) hx hb (by omega) dX4_then_45 (by decide) (fun c10 => ?_) (fun c10 => ?_)
    · skip
      refine lv_iload_n hx hb dX4_then_59 rfl (lv_at hl 2 rfl) ?_
      refine lv_aload_n hx hb dX4_then_60 rfl (lv_at hl 3 rfl) ?_
      refine va_get (D := D) (ci := 4) (v := .ref (q 1)) (C := RX4) (T := TX4) (N := 7) hx hb hts hin4 hown hK hP 0 rfl rfl 0 (by decide) (hts (.fieldLink RX4 7 "ProofMarksModel" "s" "[I") (List.mem_of_getElem? (i := 1) rfl)) (fun _ h9 => h9) rfl dX4_then_61 ?_
      refine lv_sipush (v := nI 162) hx hb dX4_then_64 (by decide) ?_
      refine kx_iald (v := nI (S 9 0)) hx hb hK hP 1 0 rfl rfl (by omega) (by decide) (pm_ms_s (S := S) (k := 0) (by omega)) dX4_then_67 ?_
      refine kx_icmp_lt (tgt := 75) hx hb (by omega) (by omega) dX4_then_68 (by decide) (fun c11 => ?_) (fun c11 => ?_)
      · skip
        refine lv_iload hx hb dX4_then_75 (lv_at hl 0 rfl) ?_
        refine lv_aload_n hx hb dX4_then_77 rfl (lv_at hl 3 rfl) ?_
        refine va_get (D := D) (ci := 4) (v := .ref (q 1)) (C := RX4) (T := TX4) (N := 7) hx hb hts hin4 hown hK hP 0 rfl rfl 0 (by decide) (hts (.fieldLink RX4 7 "ProofMarksModel" "s" "[I") (List.mem_of_getElem? (i := 1) rfl)) (fun _ h9 => h9) rfl dX4_then_78 ?_
        refine lv_sipush (v := nI 165) hx hb dX4_then_81 (by decide) ?_
        refine kx_iald (v := nI (S 9 3)) hx hb hK hP 1 0 rfl rfl (by omega) (by decide) (pm_ms_s (S := S) (k := 3) (by omega)) dX4_then_84 ?_
        refine kx_icmp_lt (tgt := 92) hx hb (by decide) (by omega) dX4_then_85 (by decide) (fun c12 => ?_) (fun c12 => ?_)
        · skip
          refine lv_iconst (v := nI 0) hx hb dX4_then_92 (by decide) ?_
          exact W.iret hx hb hr (fun t ht _ => ⟨_, rfl, (congrArg nI (by have h8 := pm_T8 (S 4 f) (pm_okb64 ho) ho; unfold pm_aft pm_dl pm_cc pm_tc; unfold pm_cc pm_tc at h8; (repeat' split) <;> omega)), ht⟩) (fun _ h => absurd h List.not_mem_nil) dX4_then_93
        · skip
          refine lv_iconst (v := nI 2) hx hb dX4_then_88 (by decide) ?_
          refine lv_goto (tgt := 93) hx hb dX4_then_89 (by decide) ?_
          exact W.iret hx hb hr (fun t ht _ => ⟨_, rfl, (congrArg nI (by have h8 := pm_T8 (S 4 f) (pm_okb64 ho) ho; unfold pm_aft pm_dl pm_cc pm_tc; unfold pm_cc pm_tc at h8; (repeat' split) <;> omega)), ht⟩) (fun _ h => absurd h List.not_mem_nil) dX4_then_93
      · skip
        refine lv_iconst (v := nI 1) hx hb dX4_then_71 (by decide) ?_
        refine lv_goto (tgt := 93) hx hb dX4_then_72 (by decide) ?_
        exact W.iret hx hb hr (fun t ht _ => ⟨_, rfl, (congrArg nI (by have h8 := pm_T8 (S 4 f) (pm_okb64 ho) ho; unfold pm_aft pm_dl pm_cc pm_tc; unfold pm_cc pm_tc at h8; (repeat' split) <;> omega)), ht⟩) (fun _ h => absurd h List.not_mem_nil) dX4_then_93
    · skip
      refine lv_iload_n hx hb dX4_then_48 rfl (lv_at hl 1 rfl) ?_
      refine lv_iconst (v := nI 1) hx hb dX4_then_49 (by decide) ?_
      refine kx_icmp_le (tgt := 57) hx hb (by omega) (by decide) dX4_then_50 (by decide) (fun c13 => ?_) (fun c13 => ?_)
      · skip
        refine lv_iconst (v := nI 0) hx hb dX4_then_57 (by decide) ?_
        exact W.iret hx hb hr (fun t ht _ => ⟨_, rfl, (congrArg nI (by have h8 := pm_T8 (S 4 f) (pm_okb64 ho) ho; unfold pm_aft pm_dl pm_cc pm_tc; unfold pm_cc pm_tc at h8; (repeat' split) <;> omega)), ht⟩) (fun _ h => absurd h List.not_mem_nil) dX4_then_58
      · skip
        refine lv_iconst (v := nI 2) hx hb dX4_then_53 (by decide) ?_
        refine lv_goto (tgt := 58) hx hb dX4_then_54 (by decide) ?_
        exact W.iret hx hb hr (fun t ht _ => ⟨_, rfl, (congrArg nI (by have h8 := pm_T8 (S 4 f) (pm_okb64 ho) ho; unfold pm_aft pm_dl pm_cc pm_tc; unfold pm_cc pm_tc at h8; (repeat' split) <;> omega)), ht⟩) (fun _ h => absurd h List.not_mem_nil) dX4_then_58
  · skip
    refine lv_aload_n hx hb dX4_then_26 rfl (lv_at hl 2 rfl) ?_
    refine va_get (D := D) (ci := 4) (v := .ref (q 1)) (C := RX4) (T := TX4) (N := 7) hx hb hts hin4 hown hK hP 0 rfl rfl 0 (by decide) (hts (.fieldLink RX4 7 "ProofMarksModel" "s" "[I") (List.mem_of_getElem? (i := 1) rfl)) (fun _ h9 => h9) rfl dX4_then_27 ?_
    refine lv_iload_n hx hb dX4_then_30 rfl (lv_at hl 3 rfl) ?_
    refine lv_iconst (v := nI 1) hx hb dX4_then_31 (by decide) ?_
    refine vp_callSi (W.runS (As := [.int (nI f), .int (nI 1)]) (rest := [.ref (q 1)]) ⟨hx, hb, hml, hown, hts⟩ (k_X4_at l f 1) (va_cwS 2 hts gX4_then_X4_at rfl rfl rfl hd_X4_at ⟨Nat.le_of_ble_eq_true rfl, Nat.le_of_ble_eq_true rfl⟩) ⟨pm_no_blind, pm_no_pre⟩ rfl rfl hl.1 rfl (lv_room (Nat.le_of_ble_eq_true rfl)) dX4_then_32 ⟨Nat.le_of_ble_eq_true rfl, Nat.le_of_ble_eq_true rfl⟩) (fun r14 h15 => ?_)
    obtain rfl : r14 = nI (5 * f + 1) := h15
    refine kx_iald (v := nI (S 1 f)) hx hb hK hP 1 0 rfl rfl (by omega) (by decide) (pm_ms_f (S := S) (f := f) 1 (by decide) (by decide) (by omega)) dX4_then_35 ?_
    refine lv_iconst (v := nI 1) hx hb dX4_then_36 (by decide) ?_
    refine kx_iadd hx hb dX4_then_37 ?_
    refine lv_goto (tgt := 42) hx hb dX4_then_38 (by decide) ?_
    refine lv_istore (lv' := [(4, .int (nI ((S 1 f) + 1))), (3, .int (nI (pm_pc (pm_ck (S 4 f))))), (2, .int (nI (pm_pc (pm_tk (S 4 f))))), (0, .ref (q 0)), (1, .int (nI f))]) hx hb dX4_then_42 hl (by decide) rfl (fun ls hl => ?_)
    refine lv_iload_n hx hb dX4_then_44 rfl (lv_at hl 1 rfl) ?_
    refine kx_if_le (tgt := 59) hx hb (by omega) dX4_then_45 (by decide) (fun c16 => ?_) (fun c16 => ?_)
    · skip
      refine lv_iload_n hx hb dX4_then_59 rfl (lv_at hl 2 rfl) ?_
      refine lv_aload_n hx hb dX4_then_60 rfl (lv_at hl 3 rfl) ?_
      refine va_get (D := D) (ci := 4) (v := .ref (q 1)) (C := RX4) (T := TX4) (N := 7) hx hb hts hin4 hown hK hP 0 rfl rfl 0 (by decide) (hts (.fieldLink RX4 7 "ProofMarksModel" "s" "[I") (List.mem_of_getElem? (i := 1) rfl)) (fun _ h9 => h9) rfl dX4_then_61 ?_
      refine lv_sipush (v := nI 162) hx hb dX4_then_64 (by decide) ?_
      refine kx_iald (v := nI (S 9 0)) hx hb hK hP 1 0 rfl rfl (by omega) (by decide) (pm_ms_s (S := S) (k := 0) (by omega)) dX4_then_67 ?_
      refine kx_icmp_lt (tgt := 75) hx hb (by omega) (by omega) dX4_then_68 (by decide) (fun c17 => ?_) (fun c17 => ?_)
      · skip
        refine lv_iload hx hb dX4_then_75 (lv_at hl 0 rfl) ?_
        refine lv_aload_n hx hb dX4_then_77 rfl (lv_at hl 3 rfl) ?_
        refine va_get (D := D) (ci := 4) (v := .ref (q 1)) (C := RX4) (T := TX4) (N := 7) hx hb hts hin4 hown hK hP 0 rfl rfl 0 (by decide) (hts (.fieldLink RX4 7 "ProofMarksModel" "s" "[I") (List.mem_of_getElem? (i := 1) rfl)) (fun _ h9 => h9) rfl dX4_then_78 ?_
        refine lv_sipush (v := nI 165) hx hb dX4_then_81 (by decide) ?_
        refine kx_iald (v := nI (S 9 3)) hx hb hK hP 1 0 rfl rfl (by omega) (by decide) (pm_ms_s (S := S) (k := 3) (by omega)) dX4_then_84 ?_
        refine kx_icmp_lt (tgt := 92) hx hb (by omega) (by omega) dX4_then_85 (by decide) (fun c18 => ?_) (fun c18 => ?_)
        · skip
          refine lv_iconst (v := nI 0) hx hb dX4_then_92 (by decide) ?_
          exact W.iret hx hb hr (fun t ht _ => ⟨_, rfl, (congrArg nI (by have h8 := pm_T8 (S 4 f) (pm_okb64 ho) ho; unfold pm_aft pm_dl pm_cc pm_tc; unfold pm_cc pm_tc at h8; (repeat' split) <;> omega)), ht⟩) (fun _ h => absurd h List.not_mem_nil) dX4_then_93
        · skip
          refine lv_iconst (v := nI 2) hx hb dX4_then_88 (by decide) ?_
          refine lv_goto (tgt := 93) hx hb dX4_then_89 (by decide) ?_
          exact W.iret hx hb hr (fun t ht _ => ⟨_, rfl, (congrArg nI (by have h8 := pm_T8 (S 4 f) (pm_okb64 ho) ho; unfold pm_aft pm_dl pm_cc pm_tc; unfold pm_cc pm_tc at h8; (repeat' split) <;> omega)), ht⟩) (fun _ h => absurd h List.not_mem_nil) dX4_then_93
      · skip
        refine lv_iconst (v := nI 1) hx hb dX4_then_71 (by decide) ?_
        refine lv_goto (tgt := 93) hx hb dX4_then_72 (by decide) ?_
        exact W.iret hx hb hr (fun t ht _ => ⟨_, rfl, (congrArg nI (by have h8 := pm_T8 (S 4 f) (pm_okb64 ho) ho; unfold pm_aft pm_dl pm_cc pm_tc; unfold pm_cc pm_tc at h8; (repeat' split) <;> omega)), ht⟩) (fun _ h => absurd h List.not_mem_nil) dX4_then_93
    · skip
      refine lv_iload_n hx hb dX4_then_48 rfl (lv_at hl 1 rfl) ?_
      refine lv_iconst (v := nI 1) hx hb dX4_then_49 (by decide) ?_
      refine kx_icmp_le (tgt := 57) hx hb (by omega) (by decide) dX4_then_50 (by decide) (fun c19 => ?_) (fun c19 => ?_)
      · skip
        refine lv_iconst (v := nI 0) hx hb dX4_then_57 (by decide) ?_
        exact W.iret hx hb hr (fun t ht _ => ⟨_, rfl, (congrArg nI (by have h8 := pm_T8 (S 4 f) (pm_okb64 ho) ho; unfold pm_aft pm_dl pm_cc pm_tc; unfold pm_cc pm_tc at h8; (repeat' split) <;> omega)), ht⟩) (fun _ h => absurd h List.not_mem_nil) dX4_then_58
      · skip
        refine lv_iconst (v := nI 2) hx hb dX4_then_53 (by decide) ?_
        refine lv_goto (tgt := 58) hx hb dX4_then_54 (by decide) ?_
        exact W.iret hx hb hr (fun t ht _ => ⟨_, rfl, (congrArg nI (by have h8 := pm_T8 (S 4 f) (pm_okb64 ho) ho; unfold pm_aft pm_dl pm_cc pm_tc; unfold pm_cc pm_tc at h8; (repeat' split) <;> omega)), ht⟩) (fun _ h => absurd h List.not_mem_nil) dX4_then_58
