set_option maxHeartbeats 4000000 in
set_option maxRecDepth 100000 in
theorem k_X2_isEditor (l : Launch) (x : Int32)  : Met l yX2_isEditor wsX2_isEditor ({ frames := 0, cells := 0, slots := 0, locals := 0 } : Room) (pm_no [.int x]) (vp_Si (fun r : Int32 => (∃ j, j < 3 ∧ x = nI j ∧ r = nI 1) ∨ ((x < 0 ∨ nI 3 ≤ x) ∧ r = nI 0))) 0 0 (fun _ => False) := by
  refine Met.ofW (cc := cX2_isEditor) (maxL := 1) (ret := (some .boolean)) (by decide) rfl ?_
  intro p e s m args below meth c s₁ B hml hpre
  obtain ⟨rfl, -⟩ := hpre
  have hx := B.exec
  have hb := B.bytes
  have hr := B.returns
  have hts := atoms_spec (ws := wsX2_isEditor) B.pre
  have hown : s.vm.findClass RX2 = some m.cls := findClass_of_methodNamed B.named
  have hlocks := B.notSynchronized
  have hl := lv_entry ([.int x]) (n := 1) (Nat.le_of_ble_eq_true rfl)
  rw [lg_entry_eq]
  generalize (lg_sl ([.int x]) ++ List.replicate (1 - (lg_sl ([.int x])).length) Slot.unset).toArray = ls at hl ⊢
  have hl : lv_has ls 1 [(0, .int x)] := hl
  refine lv_iload_n hx hb dX2_isEditor_0 rfl (lv_at hl 0 rfl) ?_
  refine lv_if_lt (tgt := 13) hx hb dX2_isEditor_1 (by decide) (fun c1 => ?_) (fun c1 => ?_)
  · skip
    refine lv_iconst (v := nI 0) hx hb dX2_isEditor_13 (by decide) ?_
    exact W.zret (ty := .boolean) hx hb hr rfl (fun t ht _ => ⟨_, rfl, Or.inr ⟨by first | exact Or.inl (by assumption) | exact Or.inr (by assumption), rfl⟩, ht⟩) (fun _ h => absurd h List.not_mem_nil) dX2_isEditor_14
  · skip
    refine lv_iload_n hx hb dX2_isEditor_4 rfl (lv_at hl 0 rfl) ?_
    refine lv_iconst (v := nI 3) hx hb dX2_isEditor_5 (by decide) ?_
    refine lv_icmp_ge (tgt := 13) hx hb dX2_isEditor_6 (by decide) (fun c2 => ?_) (fun c2 => ?_)
    · skip
      refine lv_iconst (v := nI 0) hx hb dX2_isEditor_13 (by decide) ?_
      exact W.zret (ty := .boolean) hx hb hr rfl (fun t ht _ => ⟨_, rfl, Or.inr ⟨by first | exact Or.inl (by assumption) | exact Or.inr (by assumption), rfl⟩, ht⟩) (fun _ h => absurd h List.not_mem_nil) dX2_isEditor_14
    · skip
      refine lv_iconst (v := nI 1) hx hb dX2_isEditor_9 (by decide) ?_
      refine lv_goto (tgt := 14) hx hb dX2_isEditor_10 (by decide) ?_
      exact W.zret (ty := .boolean) hx hb hr rfl (fun t ht _ => ⟨_, rfl, Or.inl (by obtain ⟨j, hj, ej⟩ := pm_rin (x := x) (n := 3) (by decide) (by assumption) (by assumption); exact ⟨j, hj, ej, rfl⟩), ht⟩) (fun _ h => absurd h List.not_mem_nil) dX2_isEditor_14

set_option maxHeartbeats 4000000 in
set_option maxRecDepth 100000 in
theorem k_X2_isFrame (l : Launch) (x : Int32)  : Met l yX2_isFrame wsX2_isFrame ({ frames := 0, cells := 0, slots := 0, locals := 0 } : Room) (pm_no [.int x]) (vp_Si (fun r : Int32 => (∃ j, j < 30 ∧ x = nI j ∧ r = nI 1) ∨ ((x < 0 ∨ nI 30 ≤ x) ∧ r = nI 0))) 0 0 (fun _ => False) := by
  refine Met.ofW (cc := cX2_isFrame) (maxL := 1) (ret := (some .boolean)) (by decide) rfl ?_
  intro p e s m args below meth c s₁ B hml hpre
  obtain ⟨rfl, -⟩ := hpre
  have hx := B.exec
  have hb := B.bytes
  have hr := B.returns
  have hts := atoms_spec (ws := wsX2_isFrame) B.pre
  have hown : s.vm.findClass RX2 = some m.cls := findClass_of_methodNamed B.named
  have hlocks := B.notSynchronized
  have hl := lv_entry ([.int x]) (n := 1) (Nat.le_of_ble_eq_true rfl)
  rw [lg_entry_eq]
  generalize (lg_sl ([.int x]) ++ List.replicate (1 - (lg_sl ([.int x])).length) Slot.unset).toArray = ls at hl ⊢
  have hl : lv_has ls 1 [(0, .int x)] := hl
  refine lv_iload_n hx hb dX2_isFrame_0 rfl (lv_at hl 0 rfl) ?_
  refine lv_if_lt (tgt := 14) hx hb dX2_isFrame_1 (by decide) (fun c1 => ?_) (fun c1 => ?_)
  · skip
    refine lv_iconst (v := nI 0) hx hb dX2_isFrame_14 (by decide) ?_
    exact W.zret (ty := .boolean) hx hb hr rfl (fun t ht _ => ⟨_, rfl, Or.inr ⟨by first | exact Or.inl (by assumption) | exact Or.inr (by assumption), rfl⟩, ht⟩) (fun _ h => absurd h List.not_mem_nil) dX2_isFrame_15
  · skip
    refine lv_iload_n hx hb dX2_isFrame_4 rfl (lv_at hl 0 rfl) ?_
    refine lv_bipush (v := nI 30) hx hb dX2_isFrame_5 (by decide) ?_
    refine lv_icmp_ge (tgt := 14) hx hb dX2_isFrame_7 (by decide) (fun c2 => ?_) (fun c2 => ?_)
    · skip
      refine lv_iconst (v := nI 0) hx hb dX2_isFrame_14 (by decide) ?_
      exact W.zret (ty := .boolean) hx hb hr rfl (fun t ht _ => ⟨_, rfl, Or.inr ⟨by first | exact Or.inl (by assumption) | exact Or.inr (by assumption), rfl⟩, ht⟩) (fun _ h => absurd h List.not_mem_nil) dX2_isFrame_15
    · skip
      refine lv_iconst (v := nI 1) hx hb dX2_isFrame_10 (by decide) ?_
      refine lv_goto (tgt := 15) hx hb dX2_isFrame_11 (by decide) ?_
      exact W.zret (ty := .boolean) hx hb hr rfl (fun t ht _ => ⟨_, rfl, Or.inl (by obtain ⟨j, hj, ej⟩ := pm_rin (x := x) (n := 30) (by decide) (by assumption) (by assumption); exact ⟨j, hj, ej, rfl⟩), ht⟩) (fun _ h => absurd h List.not_mem_nil) dX2_isFrame_15

set_option maxHeartbeats 4000000 in
set_option maxRecDepth 100000 in
theorem k_X2_withEditor (l : Launch) (a b d : Int32)  : Met l yX2_withEditor wsX2_withEditor ({ frames := 0, cells := 0, slots := 0, locals := 0 } : Room) (pm_no [.int a, .int b, .int d]) (vp_Si (fun r : Int32 => r = pm_we a b d)) 0 0 (fun _ => False) := by
  refine Met.ofW (cc := cX2_withEditor) (maxL := 4) (ret := (some .int)) (by decide) rfl ?_
  intro p e s m args below meth c s₁ B hml hpre
  obtain ⟨rfl, -⟩ := hpre
  have hx := B.exec
  have hb := B.bytes
  have hr := B.returns
  have hts := atoms_spec (ws := wsX2_withEditor) B.pre
  have hown : s.vm.findClass RX2 = some m.cls := findClass_of_methodNamed B.named
  have hlocks := B.notSynchronized
  have hl := lv_entry ([.int a, .int b, .int d]) (n := 4) (Nat.le_of_ble_eq_true rfl)
  rw [lg_entry_eq]
  generalize (lg_sl ([.int a, .int b, .int d]) ++ List.replicate (4 - (lg_sl ([.int a, .int b, .int d])).length) Slot.unset).toArray = ls at hl ⊢
  have hl : lv_has ls 4 [(0, .int a), (1, .int b), (2, .int d)] := hl
  refine lv_iconst (v := nI 1) hx hb dX2_withEditor_0 (by decide) ?_
  refine lv_iload_n hx hb dX2_withEditor_1 rfl (lv_at hl 1 rfl) ?_
  refine lv_ishl hx hb dX2_withEditor_2 ?_
  refine lv_istore_n (lv' := [(3, .int ((nI 1) <<< (b &&& 31))), (0, .int a), (1, .int b), (2, .int d)]) hx hb dX2_withEditor_3 rfl hl (by decide) rfl (fun ls hl => ?_)
  refine lv_iload_n hx hb dX2_withEditor_4 rfl (lv_at hl 3 rfl) ?_
  refine lv_if_eq (tgt := 14) hx hb dX2_withEditor_5 (by decide) (fun c1 => ?_) (fun c1 => ?_)
  · skip
    refine lv_iload_n hx hb dX2_withEditor_14 rfl (lv_at hl 1 rfl) ?_
    refine lv_iload_n hx hb dX2_withEditor_15 rfl (lv_at hl 0 rfl) ?_
    refine lv_iconst (v := -1) hx hb dX2_withEditor_16 (by decide) ?_
    refine lv_ixor hx hb dX2_withEditor_17 ?_
    refine lv_iand hx hb dX2_withEditor_18 ?_
    exact W.iret hx hb hr (fun t ht _ => ⟨_, rfl, (by unfold pm_we; first | rw [if_pos (by assumption)] | rw [if_neg (by assumption)]), ht⟩) (fun _ h => absurd h List.not_mem_nil) dX2_withEditor_19
  · skip
    refine lv_iload_n hx hb dX2_withEditor_8 rfl (lv_at hl 1 rfl) ?_
    refine lv_iload_n hx hb dX2_withEditor_9 rfl (lv_at hl 0 rfl) ?_
    refine lv_ior hx hb dX2_withEditor_10 ?_
    refine lv_goto (tgt := 19) hx hb dX2_withEditor_11 (by decide) ?_
    exact W.iret hx hb hr (fun t ht _ => ⟨_, rfl, (by unfold pm_we; first | rw [if_pos (by assumption)] | rw [if_neg (by assumption)]), ht⟩) (fun _ h => absurd h List.not_mem_nil) dX2_withEditor_19

set_option maxHeartbeats 4000000 in
set_option maxRecDepth 100000 in
theorem k_X2_paperOf (l : Launch) (z : Nat)  : Met l yX2_paperOf wsX2_paperOf ({ frames := 0, cells := 0, slots := 0, locals := 0 } : Room) (pm_no [.int (nI z)]) (vp_Si (fun r : Int32 => r = nI (10 * z * z))) 0 0 (fun _ => False) := by
  refine Met.ofW (cc := cX2_paperOf) (maxL := 1) (ret := (some .int)) (by decide) rfl ?_
  intro p e s m args below meth c s₁ B hml hpre
  obtain ⟨rfl, -⟩ := hpre
  have hx := B.exec
  have hb := B.bytes
  have hr := B.returns
  have hts := atoms_spec (ws := wsX2_paperOf) B.pre
  have hown : s.vm.findClass RX2 = some m.cls := findClass_of_methodNamed B.named
  have hlocks := B.notSynchronized
  have hl := lv_entry ([.int (nI z)]) (n := 1) (Nat.le_of_ble_eq_true rfl)
  rw [lg_entry_eq]
  generalize (lg_sl ([.int (nI z)]) ++ List.replicate (1 - (lg_sl ([.int (nI z)])).length) Slot.unset).toArray = ls at hl ⊢
  have hl : lv_has ls 1 [(0, .int (nI z))] := hl
  refine lv_bipush (v := nI 10) hx hb dX2_paperOf_0 (by decide) ?_
  refine lv_iload_n hx hb dX2_paperOf_2 rfl (lv_at hl 0 rfl) ?_
  refine kx_imul hx hb dX2_paperOf_3 ?_
  refine lv_iload_n hx hb dX2_paperOf_4 rfl (lv_at hl 0 rfl) ?_
  refine kx_imul hx hb dX2_paperOf_5 ?_
  exact W.iret hx hb hr (fun t ht _ => ⟨_, rfl, rfl, ht⟩) (fun _ h => absurd h List.not_mem_nil) dX2_paperOf_6

set_option maxHeartbeats 4000000 in
set_option maxRecDepth 100000 in
theorem k_X2_markOf (l : Launch) (D : va_G) (y : Nat → ClassId) (q : Nat → Nat) (S : Nat → Nat → Nat) (i f : Nat) (ho : pm_okb (S 4 f) = true) (hi : i < 3) (hf : f < 30) : Met l yX2_markOf wsX2_markOf ({ frames := 0, cells := 0, slots := 0, locals := 0 } : Room) (pm_ro D (pm_ty y) [.ref (q 0), .int (nI i), .int (nI f)] (pm_shS y q S)) (vp_Si (fun r : Int32 => r = nI (pm_mk (S 4 f) i))) 0 0 (fun _ => False) := by
  refine Met.ofW (cc := cX2_markOf) (maxL := 4) (ret := (some .int)) (by decide) rfl ?_
  intro p e s m args below meth c s₁ B hml hpre
  obtain ⟨rfl, hP, hK⟩ := hpre
  have hx := B.exec
  have hb := B.bytes
  have hr := B.returns
  have hts := atoms_spec (ws := wsX2_markOf) B.pre
  have hown : s.vm.findClass RX2 = some m.cls := findClass_of_methodNamed B.named
  have hlocks := B.notSynchronized
  have hin2 : ∀ w ∈ u_ws RX2 TX2 15, w ∈ wsX2_markOf := fun w h => List.mem_cons_of_mem _ (List.mem_append_right _ h)
  have hP : va_P D vwCl (pm_shS y q S) s.heap := hP
  have hl := lv_entry ([.ref (q 0), .int (nI i), .int (nI f)]) (n := 4) (Nat.le_of_ble_eq_true rfl)
  rw [lg_entry_eq]
  generalize (lg_sl ([.ref (q 0), .int (nI i), .int (nI f)]) ++ List.replicate (4 - (lg_sl ([.ref (q 0), .int (nI i), .int (nI f)])).length) Slot.unset).toArray = ls at hl ⊢
  have hl : lv_has ls 4 [(0, .ref (q 0)), (1, .int (nI i)), (2, .int (nI f))] := hl
  refine lv_iconst (v := nI 1) hx hb dX2_markOf_0 (by decide) ?_
  refine lv_iload_n hx hb dX2_markOf_1 rfl (lv_at hl 1 rfl) ?_
  refine lv_ishl hx hb dX2_markOf_2 ?_
  refine lv_topi (fun x1 e2 => ?_)
  obtain rfl : x1 = nI (2 ^ i) := e2.trans (pm_bit i hi)
  refine lv_istore_n (lv' := [(3, .int (nI (2 ^ i))), (0, .ref (q 0)), (1, .int (nI i)), (2, .int (nI f))]) hx hb dX2_markOf_3 rfl hl (by decide) rfl (fun ls hl => ?_)
  refine lv_aload_n hx hb dX2_markOf_4 rfl (lv_at hl 1 rfl) ?_
  refine va_get (D := D) (ci := 2) (v := .ref (q 3)) (C := RX2) (T := TX2) (N := 15) hx hb hts hin2 hown hK hP 0 rfl rfl 2 (by decide) (hts (.fieldLink RX2 18 "ProofMarks$Sheet" "ticks" "[I") (List.mem_of_getElem? (i := 1) rfl)) (fun _ h9 => h9) rfl dX2_markOf_5 ?_
  refine lv_iload_n hx hb dX2_markOf_8 rfl (lv_at hl 3 rfl) ?_
  refine kx_iald (v := nI (pm_tk ((S 4) f))) hx hb hK hP 3 0 rfl rfl (by omega) (by decide) rfl dX2_markOf_9 ?_
  have := pm_tk8 ((S 4) f)
  refine lv_iload_n hx hb dX2_markOf_10 rfl (lv_at hl 0 rfl) ?_
  refine lv_iand hx hb dX2_markOf_11 ?_
  refine lv_if_eq (tgt := 17) hx hb dX2_markOf_12 (by decide) (fun c3 => ?_) (fun c3 => ?_)
  · skip
    refine lv_aload_n hx hb dX2_markOf_17 rfl (lv_at hl 1 rfl) ?_
    refine va_get (D := D) (ci := 2) (v := .ref (q 4)) (C := RX2) (T := TX2) (N := 15) hx hb hts hin2 hown hK hP 0 rfl rfl 3 (by decide) (hts (.fieldLink RX2 21 "ProofMarks$Sheet" "crosses" "[I") (List.mem_of_getElem? (i := 2) rfl)) (fun _ h9 => h9) rfl dX2_markOf_18 ?_
    refine lv_iload_n hx hb dX2_markOf_21 rfl (lv_at hl 3 rfl) ?_
    refine kx_iald (v := nI (pm_ck ((S 4) f))) hx hb hK hP 4 0 rfl rfl (by omega) (by decide) rfl dX2_markOf_22 ?_
    have := pm_ck8 ((S 4) f)
    refine lv_iload_n hx hb dX2_markOf_23 rfl (lv_at hl 0 rfl) ?_
    refine lv_iand hx hb dX2_markOf_24 ?_
    refine lv_if_eq (tgt := 32) hx hb dX2_markOf_25 (by decide) (fun c4 => ?_) (fun c4 => ?_)
    · skip
      refine lv_iconst (v := nI 0) hx hb dX2_markOf_32 (by decide) ?_
      exact W.iret hx hb hr (fun t ht _ => ⟨_, rfl, (congrArg nI (by have h1 := (pm_tkbit ho hi).mp (by assumption); have h2 := (pm_ckbit ho hi).mp (by assumption); have h3 := pm_mk3 ho hi; omega)), ht⟩) (fun _ h => absurd h List.not_mem_nil) dX2_markOf_33
    · skip
      refine lv_iconst (v := nI 2) hx hb dX2_markOf_28 (by decide) ?_
      refine lv_goto (tgt := 33) hx hb dX2_markOf_29 (by decide) ?_
      exact W.iret hx hb hr (fun t ht _ => ⟨_, rfl, (congrArg nI (Classical.byContradiction fun z => absurd ((pm_ckbit ho hi).mpr (fun y => z y.symm)) (by assumption))), ht⟩) (fun _ h => absurd h List.not_mem_nil) dX2_markOf_33
  · skip
    refine lv_iconst (v := nI 1) hx hb dX2_markOf_15 (by decide) ?_
    exact W.iret hx hb hr (fun t ht _ => ⟨_, rfl, (congrArg nI (Classical.byContradiction fun z => absurd ((pm_tkbit ho hi).mpr (fun y => z y.symm)) (by assumption))), ht⟩) (fun _ h => absurd h List.not_mem_nil) dX2_markOf_16

set_option maxHeartbeats 4000000 in
set_option maxRecDepth 100000 in
theorem k_X2_marksOf (l : Launch) (D : va_G) (y : Nat → ClassId) (q : Nat → Nat) (S : Nat → Nat → Nat) (i v : Nat) (hI : pm_Inv S) (hi : i < 3) (hv : v < 3) : Met l yX2_marksOf wsX2_marksOf ({ frames := 1, cells := 0, slots := 0, locals := 23 } : Room) (pm_ro D (pm_ty y) [.ref (q 0), .int (nI i), .int (nI v)] (pm_shS y q S)) (vp_Si (fun r : Int32 => r = nI (pm_cnt S i v 30))) 0 0 (fun _ => False) := by
  refine Met.ofW (cc := cX2_marksOf) (maxL := 5) (ret := (some .int)) (by decide) rfl ?_
  intro p e s m args below meth c s₁ B hml hpre
  obtain ⟨rfl, hP, hK⟩ := hpre
  have hx := B.exec
  have hb := B.bytes
  have hr := B.returns
  have hts := atoms_spec (ws := wsX2_marksOf) B.pre
  have hown : s.vm.findClass RX2 = some m.cls := findClass_of_methodNamed B.named
  have hlocks := B.notSynchronized
  have hin2 : ∀ w ∈ u_ws RX2 TX2 15, w ∈ wsX2_marksOf := fun w h => List.mem_cons_of_mem _ (List.mem_append_right _ h)
  have hP : va_P D vwCl (pm_shS y q S) s.heap := hP
  have hl := lv_entry ([.ref (q 0), .int (nI i), .int (nI v)]) (n := 5) (Nat.le_of_ble_eq_true rfl)
  rw [lg_entry_eq]
  generalize (lg_sl ([.ref (q 0), .int (nI i), .int (nI v)]) ++ List.replicate (5 - (lg_sl ([.ref (q 0), .int (nI i), .int (nI v)])).length) Slot.unset).toArray = ls at hl ⊢
  have hl : lv_has ls 5 [(0, .ref (q 0)), (1, .int (nI i)), (2, .int (nI v))] := hl
  refine lv_iconst (v := nI 0) hx hb dX2_marksOf_0 (by decide) ?_
  refine lv_istore_n (lv' := [(3, .int (nI 0)), (0, .ref (q 0)), (1, .int (nI i)), (2, .int (nI v))]) hx hb dX2_marksOf_1 rfl hl (by decide) rfl (fun ls hl => ?_)
  refine lv_iconst (v := nI 0) hx hb dX2_marksOf_2 (by decide) ?_
  refine lv_istore (lv' := [(4, .int (nI 0)), (3, .int (nI 0)), (0, .ref (q 0)), (1, .int (nI i)), (2, .int (nI v))]) hx hb dX2_marksOf_3 hl (by decide) rfl (fun ls hl => ?_)
  have LOOP5 : ∀ (n k : Nat) (ls : Array Slot), k ≤ 30 → 30 - k < n → lv_has ls 5 [(0, .ref (q 0)), (1, .int (nI i)), (2, .int (nI v)), (3, .int (nI (pm_cnt S i v k))), (4, .int (nI k))] → W p l e (headSpec wsX2_marksOf ({ frames := 1, cells := 0, slots := 0, locals := 23 } : Room)).room s m ([.ref (q 0), .int (nI i), .int (nI v)] : List Value).toArray below meth c s.heap [] 0 0 (MQ below (vp_Si (fun r : Int32 => r = nI (pm_cnt S i v 30))) ([.ref (q 0), .int (nI i), .int (nI v)] : List Value).toArray s 0 0 (fun _ => False)) (F0 m 5 ls []) := by
    intro n
    induction n with
    | zero => intro k _ hi hn; omega
    | succ n ih1 =>
      intro k ls hi_k hn_k hl 
      refine lv_iload hx hb dX2_marksOf_5 (lv_at hl 4 rfl) ?_
      refine lv_bipush (v := nI 30) hx hb dX2_marksOf_7 (by decide) ?_
      refine kx_icmp_ge (tgt := 37) hx hb (by omega) (by decide) dX2_marksOf_9 (by decide) (fun c2 => ?_) (fun c2 => ?_)
      · skip
        refine lv_iload_n hx hb dX2_marksOf_37 rfl (lv_at hl 3 rfl) ?_
        exact W.iret hx hb hr (fun t ht _ => ⟨_, rfl, (by rw [show k = 30 by omega]), ht⟩) (fun _ h => absurd h List.not_mem_nil) dX2_marksOf_38
      · skip
        refine lv_iload_n hx hb dX2_marksOf_12 rfl (lv_at hl 3 rfl) ?_
        refine lv_aload_n hx hb dX2_marksOf_13 rfl (lv_at hl 0 rfl) ?_
        refine lv_iload_n hx hb dX2_marksOf_14 rfl (lv_at hl 1 rfl) ?_
        refine lv_iload hx hb dX2_marksOf_15 (lv_at hl 4 rfl) ?_
        refine vp_callSi (W.runV (As := [.int (nI i), .int (nI k)]) (rest := [.int (nI (pm_cnt S i v k))]) ⟨hx, hb, hml, hown, hts⟩ (k_X2_markOf l D y q S i k (hI.okm k (by omega)) (by omega) (by omega)) (cwV 2 hts gX2_marksOf_X2_markOf rfl rfl rfl hd_X2_markOf ⟨Nat.le_of_ble_eq_true rfl, Nat.le_of_ble_eq_true rfl⟩) ⟨pm_ro_blind, va_recv hK hP (ci := 2) (q0 := 0) rfl rfl, pm_ro_pre hP hK⟩ rfl rfl hl.1 rfl (lv_room (Nat.le_of_ble_eq_true rfl)) dX2_marksOf_17 ⟨Nat.le_of_ble_eq_true rfl, Nat.le_of_ble_eq_true rfl⟩) (fun r3 h4 => ?_)
        obtain rfl : r3 = nI (pm_mk (S 4 k) i) := h4
        have := pm_lt4 (S 4 k) i
        refine lv_iload_n hx hb dX2_marksOf_20 rfl (lv_at hl 2 rfl) ?_
        refine kx_icmp_ne (tgt := 28) hx hb (by omega) (by omega) dX2_marksOf_21 (by decide) (fun c5 => ?_) (fun c5 => ?_)
        · skip
          refine lv_iconst (v := nI 0) hx hb dX2_marksOf_28 (by decide) ?_
          refine kx_iadd hx hb dX2_marksOf_29 ?_
          refine lv_istore_n (lv' := [(3, .int (nI ((pm_cnt S i v k) + 0))), (0, .ref (q 0)), (1, .int (nI i)), (2, .int (nI v)), (4, .int (nI k))]) hx hb dX2_marksOf_30 rfl hl (by decide) rfl (fun ls hl => ?_)
          refine kx_iinc (a := k) (lv' := [(4, .int (nI (k + 1))), (3, .int (nI ((pm_cnt S i v k) + 0))), (0, .ref (q 0)), (1, .int (nI i)), (2, .int (nI v))]) hx hb dX2_marksOf_31 hl (k := 4) rfl (by decide) rfl (fun ls hl => ?_)
          refine lv_goto (tgt := 5) hx hb dX2_marksOf_34 (by decide) ?_
          have q6 : (nI (pm_cnt S i v (k + 1)) : Int32) = nI ((pm_cnt S i v k) + 0) := (by first | exact congrArg nI (pm_cnt_p (by assumption)) | exact congrArg nI (pm_cnt_n (by assumption)))
          exact ih1 (k + 1) ls (by omega) (by omega) (by rw [q6]; exact lv_sub hl [2, 3, 4, 1, 0] rfl) 
        · skip
          refine lv_iconst (v := nI 1) hx hb dX2_marksOf_24 (by decide) ?_
          refine lv_goto (tgt := 29) hx hb dX2_marksOf_25 (by decide) ?_
          refine kx_iadd hx hb dX2_marksOf_29 ?_
          refine lv_istore_n (lv' := [(3, .int (nI ((pm_cnt S i v k) + 1))), (0, .ref (q 0)), (1, .int (nI i)), (2, .int (nI v)), (4, .int (nI k))]) hx hb dX2_marksOf_30 rfl hl (by decide) rfl (fun ls hl => ?_)
          refine kx_iinc (a := k) (lv' := [(4, .int (nI (k + 1))), (3, .int (nI ((pm_cnt S i v k) + 1))), (0, .ref (q 0)), (1, .int (nI i)), (2, .int (nI v))]) hx hb dX2_marksOf_31 hl (k := 4) rfl (by decide) rfl (fun ls hl => ?_)
          refine lv_goto (tgt := 5) hx hb dX2_marksOf_34 (by decide) ?_
          have q7 : (nI (pm_cnt S i v (k + 1)) : Int32) = nI ((pm_cnt S i v k) + 1) := (by first | exact congrArg nI (pm_cnt_p (by assumption)) | exact congrArg nI (pm_cnt_n (by assumption)))
          exact ih1 (k + 1) ls (by omega) (by omega) (by rw [q7]; exact lv_sub hl [2, 3, 4, 1, 0] rfl) 
  exact LOOP5 (30 + 1) 0 ls (by omega) (by omega) (lv_sub hl [2, 3, 4, 1, 0] rfl) 

set_option maxHeartbeats 4000000 in
set_option maxRecDepth 100000 in
theorem k_X2_vetoesLeft (l : Launch) (D : va_G) (y : Nat → ClassId) (q : Nat → Nat) (S : Nat → Nat → Nat) (i : Nat) (hI : pm_Inv S) (hi : i < 3) : Met l yX2_vetoesLeft wsX2_vetoesLeft ({ frames := 2, cells := 0, slots := 0, locals := 47 } : Room) (pm_ro D (pm_ty y) [.ref (q 0), .int (nI i)] (pm_shS y q S)) (vp_Si (fun r : Int32 => r = nI (S 9 1 - pm_cnt S i 2 30))) 0 0 (fun _ => False) := by
  refine Met.ofW (cc := cX2_vetoesLeft) (maxL := 2) (ret := (some .int)) (by decide) rfl ?_
  intro p e s m args below meth c s₁ B hml hpre
  obtain ⟨rfl, hP, hK⟩ := hpre
  have hx := B.exec
  have hb := B.bytes
  have hr := B.returns
  have hts := atoms_spec (ws := wsX2_vetoesLeft) B.pre
  have hown : s.vm.findClass RX2 = some m.cls := findClass_of_methodNamed B.named
  have hlocks := B.notSynchronized
  have hin2 : ∀ w ∈ u_ws RX2 TX2 15, w ∈ wsX2_vetoesLeft := fun w h => List.mem_cons_of_mem _ (List.mem_append_right _ h)
  have hP : va_P D vwCl (pm_shS y q S) s.heap := hP
  have hl := lv_entry ([.ref (q 0), .int (nI i)]) (n := 2) (Nat.le_of_ble_eq_true rfl)
  rw [lg_entry_eq]
  generalize (lg_sl ([.ref (q 0), .int (nI i)]) ++ List.replicate (2 - (lg_sl ([.ref (q 0), .int (nI i)])).length) Slot.unset).toArray = ls at hl ⊢
  have hl : lv_has ls 2 [(0, .ref (q 0)), (1, .int (nI i))] := hl
  refine lv_aload_n hx hb dX2_vetoesLeft_0 rfl (lv_at hl 0 rfl) ?_
  refine va_get (D := D) (ci := 2) (v := .ref (q 1)) (C := RX2) (T := TX2) (N := 15) hx hb hts hin2 hown hK hP 0 rfl rfl 0 (by decide) (hts (.fieldLink RX2 11 "ProofMarks$Sheet" "settings" "[I") (List.mem_of_getElem? (i := 1) rfl)) (fun _ h9 => h9) rfl dX2_vetoesLeft_1 ?_
  refine lv_iconst (v := nI 1) hx hb dX2_vetoesLeft_4 (by decide) ?_
  refine kx_iald (v := nI ((S 9) 1)) hx hb hK hP 1 0 rfl rfl (by omega) (by decide) rfl dX2_vetoesLeft_5 ?_
  have := hI.set9 1 (by omega)
  refine lv_aload_n hx hb dX2_vetoesLeft_6 rfl (lv_at hl 0 rfl) ?_
  refine lv_iload_n hx hb dX2_vetoesLeft_7 rfl (lv_at hl 1 rfl) ?_
  refine lv_iconst (v := nI 2) hx hb dX2_vetoesLeft_8 (by decide) ?_
  refine vp_callSi (W.runV (As := [.int (nI i), .int (nI 2)]) (rest := [.int (nI ((S 9) 1))]) ⟨hx, hb, hml, hown, hts⟩ (k_X2_marksOf l D y q S i 2 hI (by omega) (by omega)) (cwV 2 hts gX2_vetoesLeft_X2_marksOf rfl rfl rfl hd_X2_marksOf ⟨Nat.le_of_ble_eq_true rfl, Nat.le_of_ble_eq_true rfl⟩) ⟨pm_ro_blind, va_recv hK hP (ci := 2) (q0 := 0) rfl rfl, pm_ro_pre hP hK⟩ rfl rfl hl.1 rfl (lv_room (Nat.le_of_ble_eq_true rfl)) dX2_vetoesLeft_9 ⟨Nat.le_of_ble_eq_true rfl, Nat.le_of_ble_eq_true rfl⟩) (fun r1 h2 => ?_)
  obtain rfl : r1 = nI (pm_cnt S i 2 30) := h2
  have := pm_cnt_le S i 2 30
  refine lv_isub hx hb dX2_vetoesLeft_12 ?_
  refine lv_iconst (v := nI 0) hx hb dX2_vetoesLeft_13 (by decide) ?_
  refine va_mmax hx hb (by rw [hml]; exact hl.1.symm) hown (hts (.methodLink RX2 138 Lib.Math.max.name) (List.mem_of_getElem? (i := 2) rfl)) (hts (.static Lib.Math.max.name) (List.mem_of_getElem? (i := 3) rfl)) (hts (.initialized "java/lang/Math") (List.mem_of_getElem? (i := 4) rfl)) (hts (.code Lib.Math.max.name Lib.Math.max.code 2 (some .int)) (List.mem_of_getElem? (i := 5) rfl)) (Nat.le_of_ble_eq_true rfl) (Nat.le_of_ble_eq_true rfl) (Nat.le_of_ble_eq_true rfl) (Nat.le_of_ble_eq_true rfl) dX2_vetoesLeft_14 ?_
  refine lv_topi (fun x3 e4 => ?_)
  obtain rfl : x3 = nI (S 9 1 - pm_cnt S i 2 30) := e4.trans (pm_max0 (by omega) (by omega))
  exact W.iret hx hb hr (fun t ht _ => ⟨_, rfl, rfl, ht⟩) (fun _ h => absurd h List.not_mem_nil) dX2_vetoesLeft_17

