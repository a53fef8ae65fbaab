theorem pq_lo (x : Int32) : ∃ u, u < 2 ^ 31 ∧ x &&& 2147483647 = nI u := by
  refine ⟨x.toBitVec.toNat % 2 ^ 31, Nat.mod_lt _ (by decide), ?_⟩
  apply Int32.toBitVec.inj
  rw [Int32.toBitVec_and]
  apply BitVec.eq_of_toNat_eq
  have e : (2147483647 : Int32).toBitVec = BitVec.ofNat 32 2147483647 := rfl
  have e2 : (nI (x.toBitVec.toNat % 2 ^ 31)).toBitVec = BitVec.ofNat 32 (x.toBitVec.toNat % 2 ^ 31) := rfl
  rw [e, e2]
  simp only [BitVec.toNat_and, BitVec.toNat_ofNat]
  have : (2147483647 : Nat) % 2 ^ 32 = 2 ^ 31 - 1 := by decide
  rw [this, Nat.and_two_pow_sub_one_eq_mod]
  omega

set_option maxHeartbeats 4000000 in
set_option maxRecDepth 100000 in
theorem k_L_ones (l : Launch) (x : Nat) (hx8 : x < 8) : Met l yL_ones wsL_ones ({ frames := 0, cells := 0, slots := 0, locals := 0 } : Room) (pm_no [.int (nI x)]) (vp_Si (fun r : Int32 => r = nI (pm_pc x))) 0 0 (fun _ => False) := by
  refine Met.ofW (cc := cL_ones) (maxL := 1) (ret := (some .int)) (by decide) rfl ?_
  intro p e s m args below meth c s₁ B hml hpre
  obtain ⟨rfl, -⟩ := hpre
  have hx := B.exec
  have hb := B.bytes
  have hr := B.returns
  have hts := atoms_spec (ws := wsL_ones) B.pre
  have hown : s.vm.findClass RL = some m.cls := findClass_of_methodNamed B.named
  have hlocks := B.notSynchronized
  have hl := lv_entry ([.int (nI x)]) (n := 1) (Nat.le_of_ble_eq_true rfl)
  rw [lg_entry_eq]
  generalize (lg_sl ([.int (nI x)]) ++ List.replicate (1 - (lg_sl ([.int (nI x)])).length) Slot.unset).toArray = ls at hl ⊢
  have hl : lv_has ls 1 [(0, .int (nI x))] := hl
  refine lv_iload_n hx hb dL_ones_0 rfl (lv_at hl 0 rfl) ?_
  refine lv_iconst (v := nI 1) hx hb dL_ones_1 (by decide) ?_
  refine lv_iand hx hb dL_ones_2 ?_
  refine lv_iload_n hx hb dL_ones_3 rfl (lv_at hl 0 rfl) ?_
  refine lv_iconst (v := nI 1) hx hb dL_ones_4 (by decide) ?_
  refine lv_ishr hx hb dL_ones_5 ?_
  refine lv_iconst (v := nI 1) hx hb dL_ones_6 (by decide) ?_
  refine lv_iand hx hb dL_ones_7 ?_
  refine lv_iadd hx hb dL_ones_8 ?_
  refine lv_iload_n hx hb dL_ones_9 rfl (lv_at hl 0 rfl) ?_
  refine lv_iconst (v := nI 2) hx hb dL_ones_10 (by decide) ?_
  refine lv_ishr hx hb dL_ones_11 ?_
  refine lv_iconst (v := nI 1) hx hb dL_ones_12 (by decide) ?_
  refine lv_iand hx hb dL_ones_13 ?_
  refine lv_iadd hx hb dL_ones_14 ?_
  exact W.iret hx hb hr (fun t ht _ => ⟨_, rfl, (pq_ones x hx8), ht⟩) (fun _ h => absurd h List.not_mem_nil) dL_ones_15

set_option maxHeartbeats 4000000 in
set_option maxRecDepth 100000 in
theorem k_L_low (l : Launch) (xv : Int32) (n : Nat) (h0 : 0 < n) (hn : n < 2 ^ 31) : Met l yL_low wsL_low ({ frames := 0, cells := 0, slots := 0, locals := 0 } : Room) (pm_no [.int xv, .int (nI n)]) (vp_Si (fun r : Int32 => ∃ t, t < n ∧ r = nI t)) 0 0 (fun _ => False) := by
  refine Met.ofW (cc := cL_low) (maxL := 2) (ret := (some .int)) (by decide) rfl ?_
  intro p e s m args below meth c s₁ B hml hpre
  obtain ⟨rfl, -⟩ := hpre
  have hx := B.exec
  have hb := B.bytes
  have hr := B.returns
  have hts := atoms_spec (ws := wsL_low) B.pre
  have hown : s.vm.findClass RL = some m.cls := findClass_of_methodNamed B.named
  have hlocks := B.notSynchronized
  have hl := lv_entry ([.int xv, .int (nI n)]) (n := 2) (Nat.le_of_ble_eq_true rfl)
  rw [lg_entry_eq]
  generalize (lg_sl ([.int xv, .int (nI n)]) ++ List.replicate (2 - (lg_sl ([.int xv, .int (nI n)])).length) Slot.unset).toArray = ls at hl ⊢
  have hl : lv_has ls 2 [(0, .int xv), (1, .int (nI n))] := hl
  refine lv_iload_n hx hb dL_low_0 rfl (lv_at hl 0 rfl) ?_
  refine lv_ldc hx hb hown (hts (.constant RL 7 (2147483647)) (List.mem_of_getElem? (i := 1) rfl)) dL_low_1 ?_
  refine lv_iand hx hb dL_low_3 ?_
  obtain ⟨u, hu, eu⟩ := pq_lo xv
  refine lv_topi (fun x1 e2 => ?_)
  obtain rfl : x1 = nI u := e2.trans (eu)
  refine lv_iload_n hx hb dL_low_4 rfl (lv_at hl 1 rfl) ?_
  refine kx_irem hx hb (by omega) (by omega) (by omega) dL_low_5 ?_
  exact W.iret hx hb hr (fun t ht _ => ⟨_, rfl, ⟨_, Nat.mod_lt _ h0, rfl⟩, ht⟩) (fun _ h => absurd h List.not_mem_nil) dL_low_6

set_option maxHeartbeats 4000000 in
set_option maxRecDepth 100000 in
theorem k_L_mark (l : Launch) (D : va_G) (y : Nat → ClassId) (L : Nat → Nat → Nat) (S : Nat → Nat → Nat) (Bs : Nat → Nat → Nat → Nat) (pi : Nat → Nat) (kn : Nat) (Gs : Nat → Nat → Nat → Nat) (sv : Nat → Nat) (U : pm_PT) (x f : Nat) (hI : pq_I S) (hx3 : x < 3) (hf : f < 30) : Met l yL_mark wsL_mark ({ frames := 3, cells := 0, slots := 0, locals := 64 } : Room) (pm_ro D (pm_ty y) [.ref (L 0 0), .int (nI x), .int (nI f)] (pm_cl y L S Bs pi kn Gs sv U)) (vp_Si (fun r : Int32 => r = nI (pm_mk (S 4 f) x))) 0 0 (fun _ => False) := by
  refine Met.ofW (cc := cL_mark) (maxL := 3) (ret := (some .int)) (by decide) rfl ?_
  intro p e s m args below meth c s₁ B hml hpre
  obtain ⟨rfl, hP, hK⟩ := hpre
  have hx := B.exec
  have hb := B.bytes
  have hr := B.returns
  have hts := atoms_spec (ws := wsL_mark) B.pre
  have hown : s.vm.findClass RL = some m.cls := findClass_of_methodNamed B.named
  have hlocks := B.notSynchronized
  have hin3 : ∀ w ∈ u_ws RX3 TX3 5, w ∈ wsL_mark := fun w h => List.mem_cons_of_mem _ (List.mem_append_left _ (List.mem_append_right _ h))
  have hin2 : ∀ w ∈ u_ws RX2 TX2 15, w ∈ wsL_mark := fun w h => List.mem_cons_of_mem _ (List.mem_append_right _ h)
  have hP : va_P D vwCl (pm_cl y L S Bs pi kn Gs sv U) s.heap := hP
  have hl := lv_entry ([.ref (L 0 0), .int (nI x), .int (nI f)]) (n := 3) (Nat.le_of_ble_eq_true rfl)
  rw [lg_entry_eq]
  generalize (lg_sl ([.ref (L 0 0), .int (nI x), .int (nI f)]) ++ List.replicate (3 - (lg_sl ([.ref (L 0 0), .int (nI x), .int (nI f)])).length) Slot.unset).toArray = ls at hl ⊢
  have hl : lv_has ls 3 [(0, .ref (L 0 0)), (1, .int (nI x)), (2, .int (nI f))] := hl
  refine lv_aload_n hx hb dL_mark_0 rfl (lv_at hl 0 rfl) ?_
  refine lv_iload_n hx hb dL_mark_1 rfl (lv_at hl 2 rfl) ?_
  refine lv_iconst (v := nI 1) hx hb dL_mark_2 (by decide) ?_
  refine vp_callSi (W.runV (As := [.int (nI f), .int (nI 1)]) (rest := []) ⟨hx, hb, hml, hown, hts⟩ (k_X3_of l D y L S Bs pi kn Gs sv U Bs Gs (nI f) (nI 1) hI.1) (cwV 2 hts gL_mark_X3_of rfl rfl rfl hd_X3_of ⟨Nat.le_of_ble_eq_true rfl, Nat.le_of_ble_eq_true rfl⟩) ⟨pm_ro_blind, va_recv hK hP (ci := 3) (q0 := 0) rfl rfl, pm_ro_pre hP hK⟩ rfl rfl hl.1 rfl (lv_room (Nat.le_of_ble_eq_true rfl)) dL_mark_3 ⟨Nat.le_of_ble_eq_true rfl, Nat.le_of_ble_eq_true rfl⟩) (fun r1 h2 => ?_)
  obtain rfl : r1 = nI (pm_tk (S 4 f)) := h2.trans (pq_of1 (by omega))
  have := pm_tk8 (S 4 f)
  refine lv_iload_n hx hb dL_mark_6 rfl (lv_at hl 1 rfl) ?_
  refine lv_ishr hx hb dL_mark_7 ?_
  refine lv_iconst (v := nI 1) hx hb dL_mark_8 (by decide) ?_
  refine lv_iand hx hb dL_mark_9 ?_
  refine lv_topi (fun x3 e4 => ?_)
  obtain rfl : x3 = nI (if pm_mk (S 4 f) x = 1 then 1 else 0) := e4.trans (pq_bt (hI.1.okm f hf) hx3)
  refine lv_iconst (v := nI 1) hx hb dL_mark_10 (by decide) ?_
  have hc5 : (if pm_mk (S 4 f) x = 1 then 1 else 0) < 2 := by split <;> decide
  refine kx_icmp_ne (tgt := 18) hx hb (by omega) (by decide) dL_mark_11 (by decide) (fun c6 => ?_) (fun c6 => ?_)
  · skip
    refine lv_aload_n hx hb dL_mark_18 rfl (lv_at hl 0 rfl) ?_
    refine lv_iload_n hx hb dL_mark_19 rfl (lv_at hl 2 rfl) ?_
    refine lv_iconst (v := nI 2) hx hb dL_mark_20 (by decide) ?_
    refine vp_callSi (W.runV (As := [.int (nI f), .int (nI 2)]) (rest := []) ⟨hx, hb, hml, hown, hts⟩ (k_X3_of l D y L S Bs pi kn Gs sv U Bs Gs (nI f) (nI 2) hI.1) (cwV 2 hts gL_mark_X3_of rfl rfl rfl hd_X3_of ⟨Nat.le_of_ble_eq_true rfl, Nat.le_of_ble_eq_true rfl⟩) ⟨pm_ro_blind, va_recv hK hP (ci := 3) (q0 := 0) rfl rfl, pm_ro_pre hP hK⟩ rfl rfl hl.1 rfl (lv_room (Nat.le_of_ble_eq_true rfl)) dL_mark_21 ⟨Nat.le_of_ble_eq_true rfl, Nat.le_of_ble_eq_true rfl⟩) (fun r7 h8 => ?_)
    obtain rfl : r7 = nI (pm_ck (S 4 f)) := h8.trans (pq_of2 (by omega))
    have := pm_ck8 (S 4 f)
    refine lv_iload_n hx hb dL_mark_24 rfl (lv_at hl 1 rfl) ?_
    refine lv_ishr hx hb dL_mark_25 ?_
    refine lv_iconst (v := nI 1) hx hb dL_mark_26 (by decide) ?_
    refine lv_iand hx hb dL_mark_27 ?_
    refine lv_topi (fun x9 e10 => ?_)
    obtain rfl : x9 = nI (if pm_mk (S 4 f) x = 2 then 1 else 0) := e10.trans (pq_bc (hI.1.okm f hf) hx3)
    refine lv_iconst (v := nI 1) hx hb dL_mark_28 (by decide) ?_
    have hc11 : (if pm_mk (S 4 f) x = 2 then 1 else 0) < 2 := by split <;> decide
    refine kx_icmp_ne (tgt := 36) hx hb (by omega) (by decide) dL_mark_29 (by decide) (fun c12 => ?_) (fun c12 => ?_)
    · skip
      refine lv_iconst (v := nI 0) hx hb dL_mark_36 (by decide) ?_
      exact W.iret hx hb hr (fun t ht _ => ⟨_, rfl, (by congr 1; have h9 := pm_mk3 (hI.1.okm f hf) hx3; (repeat' split at *) <;> omega), ht⟩) (fun _ h => absurd h List.not_mem_nil) dL_mark_37
    · skip
      refine lv_iconst (v := nI 2) hx hb dL_mark_32 (by decide) ?_
      refine lv_goto (tgt := 37) hx hb dL_mark_33 (by decide) ?_
      exact W.iret hx hb hr (fun t ht _ => ⟨_, rfl, (by congr 1; have h9 := pm_mk3 (hI.1.okm f hf) hx3; (repeat' split at *) <;> omega), ht⟩) (fun _ h => absurd h List.not_mem_nil) dL_mark_37
  · skip
    refine lv_iconst (v := nI 1) hx hb dL_mark_14 (by decide) ?_
    refine lv_goto (tgt := 37) hx hb dL_mark_15 (by decide) ?_
    exact W.iret hx hb hr (fun t ht _ => ⟨_, rfl, (by congr 1; have h9 := pm_mk3 (hI.1.okm f hf) hx3; (repeat' split at *) <;> omega), ht⟩) (fun _ h => absurd h List.not_mem_nil) dL_mark_37

def pq_sc (av : List Value) (b N : Nat) (xs : Nat → Int32) : Array Value → State → Prop := va_Pc av (fun U => va_X b N xs U U.heap ∧ b < U.heap.size)
theorem pq_sc_blind {av : List Value} {b N : Nat} {xs : Nat → Int32} : FrameBlind (pq_sc av b N xs) := fun _ U g mk q => ⟨q.1, va_X.moved (u := U) (U := U.calling g mk _) (Vm.Alike.refl U.vm) q.2.1, q.2.2⟩
theorem pq_sc_pre {av : List Value} {b N : Nat} {xs : Nat → Int32} {s : State} {H : Heap} (hX : va_X b N xs s H) (hb : b < H.size) : ∀ U : State, U.heap = H → s.WarmedH U.vm → pq_sc av b N xs av.toArray U := fun U hU hW => ⟨rfl, by rw [hU]; exact va_X.moved hW.alike hX, by rw [hU]; exact hb⟩

set_option maxHeartbeats 4000000 in
set_option maxRecDepth 100000 in
theorem k_L_cell (l : Launch) (b N : Nat) (xs : Nat → Int32) (i : Nat) (hN : N ≤ 260) (hi : i < 1000) : Met l yL_cell wsL_cell ({ frames := 0, cells := 0, slots := 0, locals := 0 } : Room) (pq_sc [.ref b, .int (nI i)] b N xs) (vp_Si (fun r : Int32 => True)) 0 0 (fun _ => False) := by
  refine Met.ofW (cc := cL_cell) (maxL := 2) (ret := (some .int)) (by decide) rfl ?_
  intro p e s m args below meth c s₁ B hml hpre
  obtain ⟨rfl, hX, hbl⟩ := hpre
  have hx := B.exec
  have hb := B.bytes
  have hr := B.returns
  have hts := atoms_spec (ws := wsL_cell) B.pre
  have hown : s.vm.findClass RL = some m.cls := findClass_of_methodNamed B.named
  have hlocks := B.notSynchronized
  have hS : va_S (fun _ => False) s.heap s.heap [] := va_S.rf
  have hl := lv_entry ([.ref b, .int (nI i)]) (n := 2) (Nat.le_of_ble_eq_true rfl)
  rw [lg_entry_eq]
  generalize (lg_sl ([.ref b, .int (nI i)]) ++ List.replicate (2 - (lg_sl ([.ref b, .int (nI i)])).length) Slot.unset).toArray = ls at hl ⊢
  have hl : lv_has ls 2 [(0, .ref b), (1, .int (nI i))] := hl
  refine lv_iload_n hx hb dL_cell_0 rfl (lv_at hl 1 rfl) ?_
  refine lv_aload_n hx hb dL_cell_1 rfl (lv_at hl 0 rfl) ?_
  refine va_slen hx hb hX hbl (A := fun _ => False) (fun h => h) hS dL_cell_2 ?_
  refine kx_icmp_ge (tgt := 12) hx hb (by omega) (by omega) dL_cell_3 (by decide) (fun c1 => ?_) (fun c1 => ?_)
  · skip
    refine lv_sipush (v := nI 7919) hx hb dL_cell_12 (by decide) ?_
    refine lv_iload_n hx hb dL_cell_15 rfl (lv_at hl 1 rfl) ?_
    refine lv_iconst (v := nI 3) hx hb dL_cell_16 (by decide) ?_
    refine kx_iadd hx hb dL_cell_17 ?_
    refine kx_imul hx hb dL_cell_18 ?_
    refine lv_iload_n hx hb dL_cell_19 rfl (lv_at hl 1 rfl) ?_
    refine lv_bipush (v := nI 11) hx hb dL_cell_20 (by decide) ?_
    refine kx_iadd hx hb dL_cell_22 ?_
    refine kx_imul hx hb dL_cell_23 ?_
    exact W.iret hx hb hr (fun t ht _ => ⟨_, rfl, trivial, ht⟩) (fun _ h => absurd h List.not_mem_nil) dL_cell_24
  · skip
    refine lv_aload_n hx hb dL_cell_6 rfl (lv_at hl 0 rfl) ?_
    refine lv_iload_n hx hb dL_cell_7 rfl (lv_at hl 1 rfl) ?_
    refine va_sld hx hb hX hbl (A := fun _ => False) (fun h => h) hS (vp_in_nI (by omega) (by omega)) dL_cell_8 ?_
    refine lv_goto (tgt := 24) hx hb dL_cell_9 (by decide) ?_
    exact W.iret hx hb hr (fun t ht _ => ⟨_, rfl, trivial, ht⟩) (fun _ h => absurd h List.not_mem_nil) dL_cell_24
