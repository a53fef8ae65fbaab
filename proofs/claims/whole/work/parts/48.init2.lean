theorem pm_zc (c : ClassId) (n : Nat) : vp_cell c (n, .inl (pm_vn (fun _ => 0))) = arrV c n (fun _ => .int 0) := rfl
def pm_i1 (i : Nat) : Nat → Int32 := fun k => if k < 150 ∧ k % 5 = 3 ∧ k / 5 < i then -1 else 0
theorem pm_i1_s {i : Nat} (h : i < 30) : upd (pm_i1 i) (5 * i + 3) (-1) = pm_i1 (i + 1) := by
  funext k
  unfold upd pm_i1
  by_cases e : k = 5 * i + 3
  · rw [if_pos e, if_pos (by omega)]
  · rw [if_neg e]
    by_cases g : k < 150 ∧ k % 5 = 3 ∧ k / 5 < i
    · rw [if_pos g, if_pos (by omega)]
    · rw [if_neg g, if_neg (by omega)]
theorem pm_i1_0 (c : ClassId) (n : Nat) : vp_cell c (n, .inl (pm_i1 0)) = arrV c n (fun _ => .int 0) := by
  rw [vp_cell_i]
  congr 1 <;> (funext j; exact congrArg Value.int (if_neg (by omega)))
def pm_i2 (i : Nat) : Nat → Int32 := fun k => if 150 ≤ k ∧ k < 162 ∧ (k - 150) % 4 = 0 ∧ (k - 150) / 4 < i then nI 5 else pm_i1 30 k
theorem pm_i2_0 : pm_i2 0 = pm_i1 30 := by
  funext k
  unfold pm_i2
  rw [if_neg (by omega)]
theorem pm_i2_s {i k : Nat} (h : i < 3) (hk : k = 150 + 4 * i) : upd (pm_i2 i) k (nI 5) = pm_i2 (i + 1) := by
  subst hk
  funext k
  unfold upd pm_i2
  by_cases e : k = 150 + 4 * i
  · rw [if_pos e, if_pos (by omega)]
  · rw [if_neg e]
    by_cases g : 150 ≤ k ∧ k < 162 ∧ (k - 150) % 4 = 0 ∧ (k - 150) / 4 < i
    · rw [if_pos g, if_pos (by omega)]
    · rw [if_neg g, if_neg (by omega)]
def pm_i3 : Nat → Int32 := upd (upd (upd (upd (upd (pm_i2 3) 162 (nI 2)) 163 (nI 3)) 164 (nI 2)) 165 (nI 2)) 167 (nI 300)
theorem pm_i3_j : ∀ k, k < 172 → pm_i3 k = pm_ms pm_S0 k := by decide +kernel

set_option maxHeartbeats 4000000 in
set_option maxRecDepth 100000 in
theorem k_X1_init (l : Launch) (D : va_G) (y : Nat → ClassId) (a0 sz : Nat)  : Met l yX1_init wsX1_init ({ frames := 1, cells := 1, slots := 80, locals := 12 } : Room) (pm_mkr D (pm_ty y) [.ref a0] ([(a0, .inr (1, [.null, .int 0, .int 0, .int 0, .int 0, .int 0, .int 0, .int 0]))]) sz) (pm_Qm D (fun (u : Nat → Nat) => u 0 = a0) (fun (u : Nat → Nat) => pm_pad y u (fun _ => 0) 0 0 0 0 0 0 0) ([(a0, .inr (1, [.null, .int 0, .int 0, .int 0, .int 0, .int 0, .int 0, .int 0]))]) sz) 1 80 (va_A ([(a0, .inr (1, [.null, .int 0, .int 0, .int 0, .int 0, .int 0, .int 0, .int 0]))]) sz) := by
  refine Met.ofW (cc := cX1_init) (maxL := 1) (ret := none) (by decide) rfl ?_
  intro p e s m args below meth c s₁ B hml hpre
  obtain ⟨rfl, hsz, hP, hK, hD0⟩ := hpre
  have hx := B.exec
  have hb := B.bytes
  have hr := B.returns
  have hts := atoms_spec (ws := wsX1_init) B.pre
  have hown : s.vm.findClass RX1 = some m.cls := findClass_of_methodNamed B.named
  have hlocks := B.notSynchronized
  have hin : meth.name = "<init>" := (name_of_methodNamed B.named B.method).1
  have hin1 : ∀ w ∈ u_ws RX1 TX1 8, w ∈ wsX1_init := fun w h => List.mem_cons_of_mem _ (List.mem_append_right _ h)
  have hP : va_P D vwCl ([(a0, .inr (1, [.null, .int 0, .int 0, .int 0, .int 0, .int 0, .int 0, .int 0]))]) s.heap := hP
  subst hsz
  have hD := hD0.self (sz := s.heap.size)
  unfold pm_Qm
  generalize hAe : va_A ([(a0, .inr (1, [.null, .int 0, .int 0, .int 0, .int 0, .int 0, .int 0, .int 0]))]) s.heap.size = A at hD ⊢
  have hA : ∀ q : Nat, s.heap.size ≤ q → A q := fun q h => by rw [← hAe]; exact Or.inr h
  have hS : va_S A s.heap s.heap [] := va_S.rf
  have hl := lv_entry ([.ref a0]) (n := 1) (Nat.le_of_ble_eq_true rfl)
  rw [lg_entry_eq]
  generalize (lg_sl ([.ref a0]) ++ List.replicate (1 - (lg_sl ([.ref a0])).length) Slot.unset).toArray = ls at hl ⊢
  have hl : lv_has ls 1 [(0, .ref a0)] := hl
  refine lv_aload_n hx hb dX1_init_0 rfl (lv_at hl 0 rfl) ?_
  refine W.objInit hx hb hown (hts (.methodLink RX1 3 objectInit) (List.mem_of_getElem? (i := 1) rfl)) (hts (.instanceMethod objectInit) (List.mem_of_getElem? (i := 2) rfl)) (hts (.code objectInit ⟨#[0xb1]⟩ 1 none) (List.mem_of_getElem? (i := 3) rfl)) rfl (by rw [hml]; exact hl.1) rfl dX1_init_1 (Nat.le_of_ble_eq_true rfl) (Nat.le_of_ble_eq_true rfl) ?_
  refine W.eq (g2 := F0 m 4 ls []) rfl ?_
  refine lv_aload_n hx hb dX1_init_4 rfl (lv_at hl 0 rfl) ?_
  refine lv_bipush (v := nI 80) hx hb dX1_init_5 (by decide) ?_
  refine va_newa (atype := .char) (n := nI 80) (N' := 80) (a0 := (80, .inl (pm_vn (fun _ => 0)))) hx hb (hts (.arrayClass .char) (List.mem_of_getElem? (i := 4) rfl)) rfl hK hP hD hS hA (fun c => pm_zc c 80) (by decide) rfl (Nat.le_of_ble_eq_true rfl) (Nat.le_of_ble_eq_true rfl) (Nat.le_of_ble_eq_true rfl) dX1_init_7 (fun a1 cA2 H hK3 hP hD hS => ?_)
  obtain rfl := pm_same1 hK hK3
  have hP : va_P D vwCl ([(a0, .inr (1, [.null, .int 0, .int 0, .int 0, .int 0, .int 0, .int 0, .int 0])), (a1, .inl (y 1, 80, .inl (pm_vn (fun _ => 0))))]) H := hP
  have hD : va_D A ([(a0, .inr (1, [.null, .int 0, .int 0, .int 0, .int 0, .int 0, .int 0, .int 0])), (a1, .inl (y 1, 80, .inl (pm_vn (fun _ => 0))))]) := hD
  refine va_putF (D := D) (ci := 1) (v := .ref a1) (ty := tyX1 0) (C := RX1) (T := TX1) (N := 8) hx hb hts hin1 tyX1 tyX1_ok nmX1 hown hK hP hD hS 0 rfl rfl 0 (by decide) (hts (.fieldLink RX1 11 "ProofMarks$Pad" "signs" "[C") (List.mem_of_getElem? (i := 5) rfl)) (fun _ h9 => h9) rfl hin rfl (by decide +kernel) rfl rfl (Nat.le_of_ble_eq_true rfl) dX1_init_9 (fun H locs hP hD hS => ?_)
  have hP : va_P D vwCl ([(a0, .inr (1, [.ref a1, .int 0, .int 0, .int 0, .int 0, .int 0, .int 0, .int 0])), (a1, .inl (y 1, 80, .inl (pm_vn (fun _ => 0))))]) H := hP
  have hD : va_D A ([(a0, .inr (1, [.ref a1, .int 0, .int 0, .int 0, .int 0, .int 0, .int 0, .int 0])), (a1, .inl (y 1, 80, .inl (pm_vn (fun _ => 0))))]) := hD
  refine lv_aload_n hx hb dX1_init_12 rfl (lv_at hl 0 rfl) ?_
  refine lv_iconst (v := nI 0) hx hb dX1_init_13 (by decide) ?_
  refine kx_put (D := D) (ci := 1) (v := .int (nI 0)) (ty := .int) (ws' := [(a0, .inr (1, [.ref a1, .int (nI 0), .int 0, .int 0, .int 0, .int 0, .int 0, .int 0])), (a1, .inl (y 1, 80, .inl (pm_vn (fun _ => 0))))]) (C := RX1) (T := TX1) (N := 8) hx hb hts hin1 tyX1 tyX1_ok nmX1 hown hK hP hD hS 0 rfl rfl 1 (by decide) (hts (.fieldLink RX1 15 "ProofMarks$Pad" "length" "I") (List.mem_of_getElem? (i := 6) rfl)) (fun _ h9 => h9) rfl (by decide +kernel) rfl rfl (Nat.le_of_ble_eq_true rfl) rfl dX1_init_14 (fun H locs hP hD hS => ?_)
  refine lv_aload_n hx hb dX1_init_17 rfl (lv_at hl 0 rfl) ?_
  refine lv_iconst (v := nI 0) hx hb dX1_init_18 (by decide) ?_
  refine kx_put (D := D) (ci := 1) (v := .int (nI 0)) (ty := .int) (ws' := [(a0, .inr (1, [.ref a1, .int (nI 0), .int (nI 0), .int 0, .int 0, .int 0, .int 0, .int 0])), (a1, .inl (y 1, 80, .inl (pm_vn (fun _ => 0))))]) (C := RX1) (T := TX1) (N := 8) hx hb hts hin1 tyX1 tyX1_ok nmX1 hown hK hP hD hS 0 rfl rfl 2 (by decide) (hts (.fieldLink RX1 19 "ProofMarks$Pad" "at" "I") (List.mem_of_getElem? (i := 7) rfl)) (fun _ h9 => h9) rfl (by decide +kernel) rfl rfl (Nat.le_of_ble_eq_true rfl) rfl dX1_init_19 (fun H locs hP hD hS => ?_)
  refine lv_aload_n hx hb dX1_init_22 rfl (lv_at hl 0 rfl) ?_
  refine lv_iconst (v := nI 0) hx hb dX1_init_23 (by decide) ?_
  refine kx_put (D := D) (ci := 1) (v := .int (nI 0)) (ty := .char) (ws' := [(a0, .inr (1, [.ref a1, .int (nI 0), .int (nI 0), .int (nI 0), .int 0, .int 0, .int 0, .int 0])), (a1, .inl (y 1, 80, .inl (pm_vn (fun _ => 0))))]) (C := RX1) (T := TX1) (N := 8) hx hb hts hin1 tyX1 tyX1_ok nmX1 hown hK hP hD hS 0 rfl rfl 3 (by decide) (hts (.fieldLink RX1 22 "ProofMarks$Pad" "order" "C") (List.mem_of_getElem? (i := 8) rfl)) (fun _ h9 => h9) rfl (by decide +kernel) (pk_charN (by decide)).1 (pk_charN (by decide)).2 (Nat.le_of_ble_eq_true rfl) rfl dX1_init_24 (fun H locs hP hD hS => ?_)
  refine lv_aload_n hx hb dX1_init_27 rfl (lv_at hl 0 rfl) ?_
  refine lv_iconst (v := nI 0) hx hb dX1_init_28 (by decide) ?_
  refine kx_put (D := D) (ci := 1) (v := .int (nI 0)) (ty := .int) (ws' := [(a0, .inr (1, [.ref a1, .int (nI 0), .int (nI 0), .int (nI 0), .int (nI 0), .int 0, .int 0, .int 0])), (a1, .inl (y 1, 80, .inl (pm_vn (fun _ => 0))))]) (C := RX1) (T := TX1) (N := 8) hx hb hts hin1 tyX1 tyX1_ok nmX1 hown hK hP hD hS 0 rfl rfl 4 (by decide) (hts (.fieldLink RX1 26 "ProofMarks$Pad" "editor" "I") (List.mem_of_getElem? (i := 9) rfl)) (fun _ h9 => h9) rfl (by decide +kernel) rfl rfl (Nat.le_of_ble_eq_true rfl) rfl dX1_init_29 (fun H locs hP hD hS => ?_)
  refine lv_aload_n hx hb dX1_init_32 rfl (lv_at hl 0 rfl) ?_
  refine lv_iconst (v := nI 0) hx hb dX1_init_33 (by decide) ?_
  refine kx_put (D := D) (ci := 1) (v := .int (nI 0)) (ty := .int) (ws' := [(a0, .inr (1, [.ref a1, .int (nI 0), .int (nI 0), .int (nI 0), .int (nI 0), .int (nI 0), .int 0, .int 0])), (a1, .inl (y 1, 80, .inl (pm_vn (fun _ => 0))))]) (C := RX1) (T := TX1) (N := 8) hx hb hts hin1 tyX1 tyX1_ok nmX1 hown hK hP hD hS 0 rfl rfl 5 (by decide) (hts (.fieldLink RX1 29 "ProofMarks$Pad" "other" "I") (List.mem_of_getElem? (i := 10) rfl)) (fun _ h9 => h9) rfl (by decide +kernel) rfl rfl (Nat.le_of_ble_eq_true rfl) rfl dX1_init_34 (fun H locs hP hD hS => ?_)
  refine lv_aload_n hx hb dX1_init_37 rfl (lv_at hl 0 rfl) ?_
  refine lv_iconst (v := nI 0) hx hb dX1_init_38 (by decide) ?_
  refine kx_put (D := D) (ci := 1) (v := .int (nI 0)) (ty := .int) (ws' := [(a0, .inr (1, [.ref a1, .int (nI 0), .int (nI 0), .int (nI 0), .int (nI 0), .int (nI 0), .int (nI 0), .int 0])), (a1, .inl (y 1, 80, .inl (pm_vn (fun _ => 0))))]) (C := RX1) (T := TX1) (N := 8) hx hb hts hin1 tyX1 tyX1_ok nmX1 hown hK hP hD hS 0 rfl rfl 6 (by decide) (hts (.fieldLink RX1 32 "ProofMarks$Pad" "number" "I") (List.mem_of_getElem? (i := 11) rfl)) (fun _ h9 => h9) rfl (by decide +kernel) rfl rfl (Nat.le_of_ble_eq_true rfl) rfl dX1_init_39 (fun H locs hP hD hS => ?_)
  refine lv_aload_n hx hb dX1_init_42 rfl (lv_at hl 0 rfl) ?_
  refine lv_iconst (v := nI 0) hx hb dX1_init_43 (by decide) ?_
  refine kx_put (D := D) (ci := 1) (v := .int (nI 0)) (ty := .int) (ws' := [(a0, .inr (1, [.ref a1, .int (nI 0), .int (nI 0), .int (nI 0), .int (nI 0), .int (nI 0), .int (nI 0), .int (nI 0)])), (a1, .inl (y 1, 80, .inl (pm_vn (fun _ => 0))))]) (C := RX1) (T := TX1) (N := 8) hx hb hts hin1 tyX1 tyX1_ok nmX1 hown hK hP hD hS 0 rfl rfl 7 (by decide) (hts (.fieldLink RX1 35 "ProofMarks$Pad" "size" "I") (List.mem_of_getElem? (i := 12) rfl)) (fun _ h9 => h9) rfl (by decide +kernel) rfl rfl (Nat.le_of_ble_eq_true rfl) rfl dX1_init_44 (fun H locs hP hD hS => ?_)
  have hP9 : va_P D vwCl (pm_pad y (fun k => [a0, a1].getD k 0) (fun _ => 0) 0 0 0 0 0 0 0) H := hP
  have hD9 : va_D A (pm_pad y (fun k => [a0, a1].getD k 0) (fun _ => 0) 0 0 0 0 0 0 0) := hD
  exact W.vret hx hb hr (fun t ht _ => ⟨⟨(fun k => [a0, a1].getD k 0), rfl, rfl, by rw [ht]; exact hP9, hD9⟩, hS.F ht⟩) hS.2.2 dX1_init_47

set_option maxHeartbeats 4000000 in
set_option maxRecDepth 100000 in
theorem k_X4_init (l : Launch) (D : va_G) (y : Nat → ClassId) (a0 sz : Nat)  : Met l yX4_init wsX4_init ({ frames := 1, cells := 5, slots := 1630, locals := 21 } : Room) (pm_mkr D (pm_ty y) [.ref a0] ([(a0, .inr (4, [.null, .null, .int 0, .null, .null, .null, .int 0]))]) sz) (pm_Qm D (fun (u : Nat → Nat) => u 0 = a0) (fun (u : Nat → Nat) => pm_mo y u pm_S0 (fun _ => 0) (fun _ => 0) 0 0 (fun _ => 0) (fun _ => 0)) ([(a0, .inr (4, [.null, .null, .int 0, .null, .null, .null, .int 0]))]) sz) 5 1630 (va_A ([(a0, .inr (4, [.null, .null, .int 0, .null, .null, .null, .int 0]))]) sz) := by
  refine Met.ofW (cc := cX4_init) (maxL := 2) (ret := none) (by decide) rfl ?_
  intro p e s m args below meth c s₁ B hml hpre
  obtain ⟨rfl, hsz, hP, hK, hD0⟩ := hpre
  have hx := B.exec
  have hb := B.bytes
  have hr := B.returns
  have hts := atoms_spec (ws := wsX4_init) B.pre
  have hown : s.vm.findClass RX4 = some m.cls := findClass_of_methodNamed B.named
  have hlocks := B.notSynchronized
  have hin : meth.name = "<init>" := (name_of_methodNamed B.named B.method).1
  have hin4 : ∀ w ∈ u_ws RX4 TX4 7, w ∈ wsX4_init := fun w h => List.mem_cons_of_mem _ (List.mem_append_right _ h)
  have hP : va_P D vwCl ([(a0, .inr (4, [.null, .null, .int 0, .null, .null, .null, .int 0]))]) s.heap := hP
  subst hsz
  have hD := hD0.self (sz := s.heap.size)
  unfold pm_Qm
  generalize hAe : va_A ([(a0, .inr (4, [.null, .null, .int 0, .null, .null, .null, .int 0]))]) s.heap.size = A at hD ⊢
  have hA : ∀ q : Nat, s.heap.size ≤ q → A q := fun q h => by rw [← hAe]; exact Or.inr h
  have hS : va_S A s.heap s.heap [] := va_S.rf
  have hl := lv_entry ([.ref a0]) (n := 2) (Nat.le_of_ble_eq_true rfl)
  rw [lg_entry_eq]
  generalize (lg_sl ([.ref a0]) ++ List.replicate (2 - (lg_sl ([.ref a0])).length) Slot.unset).toArray = ls at hl ⊢
  have hl : lv_has ls 2 [(0, .ref a0)] := hl
  refine lv_aload_n hx hb dX4_init_0 rfl (lv_at hl 0 rfl) ?_
  refine W.objInit hx hb hown (hts (.methodLink RX4 1 objectInit) (List.mem_of_getElem? (i := 1) rfl)) (hts (.instanceMethod objectInit) (List.mem_of_getElem? (i := 2) rfl)) (hts (.code objectInit ⟨#[0xb1]⟩ 1 none) (List.mem_of_getElem? (i := 3) rfl)) rfl (by rw [hml]; exact hl.1) rfl dX4_init_1 (Nat.le_of_ble_eq_true rfl) (Nat.le_of_ble_eq_true rfl) ?_
  refine W.eq (g2 := F0 m 4 ls []) rfl ?_
  refine lv_aload_n hx hb dX4_init_4 rfl (lv_at hl 0 rfl) ?_
  refine lv_sipush (v := nI 172) hx hb dX4_init_5 (by decide) ?_
  refine va_newa (atype := .int) (n := nI 172) (N' := 172) (a0 := (172, .inl (pm_i1 0))) hx hb (hts (.arrayClass .int) (List.mem_of_getElem? (i := 4) rfl)) rfl hK hP hD hS hA (fun c => pm_i1_0 c 172) (by decide) rfl (Nat.le_of_ble_eq_true rfl) (Nat.le_of_ble_eq_true rfl) (Nat.le_of_ble_eq_true rfl) dX4_init_8 (fun a1 cA2 H hK3 hP hD hS => ?_)
  obtain rfl := pm_same0 hK hK3
  have hP : va_P D vwCl ([(a0, .inr (4, [.null, .null, .int 0, .null, .null, .null, .int 0])), (a1, .inl (y 0, 172, .inl (pm_i1 0)))]) H := hP
  have hD : va_D A ([(a0, .inr (4, [.null, .null, .int 0, .null, .null, .null, .int 0])), (a1, .inl (y 0, 172, .inl (pm_i1 0)))]) := hD
  refine va_putF (D := D) (ci := 4) (v := .ref a1) (ty := tyX4 0) (C := RX4) (T := TX4) (N := 7) hx hb hts hin4 tyX4 tyX4_ok nmX4 hown hK hP hD hS 0 rfl rfl 0 (by decide) (hts (.fieldLink RX4 7 "ProofMarksModel" "s" "[I") (List.mem_of_getElem? (i := 5) rfl)) (fun _ h9 => h9) rfl hin rfl (by decide +kernel) rfl rfl (Nat.le_of_ble_eq_true rfl) dX4_init_10 (fun H locs hP hD hS => ?_)
  have hP : va_P D vwCl ([(a0, .inr (4, [.ref a1, .null, .int 0, .null, .null, .null, .int 0])), (a1, .inl (y 0, 172, .inl (pm_i1 0)))]) H := hP
  have hD : va_D A ([(a0, .inr (4, [.ref a1, .null, .int 0, .null, .null, .null, .int 0])), (a1, .inl (y 0, 172, .inl (pm_i1 0)))]) := hD
  refine lv_aload_n hx hb dX4_init_13 rfl (lv_at hl 0 rfl) ?_
  refine lv_sipush (v := nI 1032) hx hb dX4_init_14 (by decide) ?_
  refine va_newa (atype := .int) (n := nI 1032) (N' := 1032) (a0 := (1032, .inl (fun _ => 0))) hx hb (hts (.arrayClass .int) (List.mem_of_getElem? (i := 4) rfl)) rfl hK hP hD hS hA (fun _ => rfl) (by decide) rfl (Nat.le_of_ble_eq_true rfl) (Nat.le_of_ble_eq_true rfl) (Nat.le_of_ble_eq_true rfl) dX4_init_17 (fun a4 cA5 H hK6 hP hD hS => ?_)
  obtain rfl := pm_same0 hK hK6
  have hP : va_P D vwCl ([(a0, .inr (4, [.ref a1, .null, .int 0, .null, .null, .null, .int 0])), (a1, .inl (y 0, 172, .inl (pm_i1 0))), (a4, .inl (y 0, 1032, .inl (fun _ => 0)))]) H := hP
  have hD : va_D A ([(a0, .inr (4, [.ref a1, .null, .int 0, .null, .null, .null, .int 0])), (a1, .inl (y 0, 172, .inl (pm_i1 0))), (a4, .inl (y 0, 1032, .inl (fun _ => 0)))]) := hD
  refine va_putF (D := D) (ci := 4) (v := .ref a4) (ty := tyX4 1) (C := RX4) (T := TX4) (N := 7) hx hb hts hin4 tyX4 tyX4_ok nmX4 hown hK hP hD hS 0 rfl rfl 1 (by decide) (hts (.fieldLink RX4 13 "ProofMarksModel" "past" "[I") (List.mem_of_getElem? (i := 6) rfl)) (fun _ h9 => h9) rfl hin rfl (by decide +kernel) rfl rfl (Nat.le_of_ble_eq_true rfl) dX4_init_19 (fun H locs hP hD hS => ?_)
  have hP : va_P D vwCl ([(a0, .inr (4, [.ref a1, .ref a4, .int 0, .null, .null, .null, .int 0])), (a1, .inl (y 0, 172, .inl (pm_i1 0))), (a4, .inl (y 0, 1032, .inl (fun _ => 0)))]) H := hP
  have hD : va_D A ([(a0, .inr (4, [.ref a1, .ref a4, .int 0, .null, .null, .null, .int 0])), (a1, .inl (y 0, 172, .inl (pm_i1 0))), (a4, .inl (y 0, 1032, .inl (fun _ => 0)))]) := hD
  refine lv_aload_n hx hb dX4_init_22 rfl (lv_at hl 0 rfl) ?_
  refine lv_sipush (v := nI 344) hx hb dX4_init_23 (by decide) ?_
  refine va_newa (atype := .int) (n := nI 344) (N' := 344) (a0 := (344, .inl (fun _ => 0))) hx hb (hts (.arrayClass .int) (List.mem_of_getElem? (i := 4) rfl)) rfl hK hP hD hS hA (fun _ => rfl) (by decide) rfl (Nat.le_of_ble_eq_true rfl) (Nat.le_of_ble_eq_true rfl) (Nat.le_of_ble_eq_true rfl) dX4_init_26 (fun a7 cA8 H hK9 hP hD hS => ?_)
  obtain rfl := pm_same0 hK hK9
  have hP : va_P D vwCl ([(a0, .inr (4, [.ref a1, .ref a4, .int 0, .null, .null, .null, .int 0])), (a1, .inl (y 0, 172, .inl (pm_i1 0))), (a4, .inl (y 0, 1032, .inl (fun _ => 0))), (a7, .inl (y 0, 344, .inl (fun _ => 0)))]) H := hP
  have hD : va_D A ([(a0, .inr (4, [.ref a1, .ref a4, .int 0, .null, .null, .null, .int 0])), (a1, .inl (y 0, 172, .inl (pm_i1 0))), (a4, .inl (y 0, 1032, .inl (fun _ => 0))), (a7, .inl (y 0, 344, .inl (fun _ => 0)))]) := hD
  refine va_putF (D := D) (ci := 4) (v := .ref a7) (ty := tyX4 3) (C := RX4) (T := TX4) (N := 7) hx hb hts hin4 tyX4 tyX4_ok nmX4 hown hK hP hD hS 0 rfl rfl 3 (by decide) (hts (.fieldLink RX4 16 "ProofMarksModel" "slots" "[I") (List.mem_of_getElem? (i := 7) rfl)) (fun _ h9 => h9) rfl hin rfl (by decide +kernel) rfl rfl (Nat.le_of_ble_eq_true rfl) dX4_init_28 (fun H locs hP hD hS => ?_)
  have hP : va_P D vwCl ([(a0, .inr (4, [.ref a1, .ref a4, .int 0, .ref a7, .null, .null, .int 0])), (a1, .inl (y 0, 172, .inl (pm_i1 0))), (a4, .inl (y 0, 1032, .inl (fun _ => 0))), (a7, .inl (y 0, 344, .inl (fun _ => 0)))]) H := hP
  have hD : va_D A ([(a0, .inr (4, [.ref a1, .ref a4, .int 0, .ref a7, .null, .null, .int 0])), (a1, .inl (y 0, 172, .inl (pm_i1 0))), (a4, .inl (y 0, 1032, .inl (fun _ => 0))), (a7, .inl (y 0, 344, .inl (fun _ => 0)))]) := hD
  refine lv_aload_n hx hb dX4_init_31 rfl (lv_at hl 0 rfl) ?_
  refine lv_iconst (v := nI 2) hx hb dX4_init_32 (by decide) ?_
  refine va_newa (atype := .boolean) (n := nI 2) (N' := 2) (a0 := (2, .inl (pm_vn (fun _ => 0)))) hx hb (hts (.arrayClass .boolean) (List.mem_of_getElem? (i := 8) rfl)) rfl hK hP hD hS hA (fun c => pm_zc c 2) (by decide) rfl (Nat.le_of_ble_eq_true rfl) (Nat.le_of_ble_eq_true rfl) (Nat.le_of_ble_eq_true rfl) dX4_init_33 (fun a10 cA11 H hK12 hP hD hS => ?_)
  obtain rfl := pm_same2 hK hK12
  have hP : va_P D vwCl ([(a0, .inr (4, [.ref a1, .ref a4, .int 0, .ref a7, .null, .null, .int 0])), (a1, .inl (y 0, 172, .inl (pm_i1 0))), (a4, .inl (y 0, 1032, .inl (fun _ => 0))), (a7, .inl (y 0, 344, .inl (fun _ => 0))), (a10, .inl (y 2, 2, .inl (pm_vn (fun _ => 0))))]) H := hP
  have hD : va_D A ([(a0, .inr (4, [.ref a1, .ref a4, .int 0, .ref a7, .null, .null, .int 0])), (a1, .inl (y 0, 172, .inl (pm_i1 0))), (a4, .inl (y 0, 1032, .inl (fun _ => 0))), (a7, .inl (y 0, 344, .inl (fun _ => 0))), (a10, .inl (y 2, 2, .inl (pm_vn (fun _ => 0))))]) := hD
  refine va_putF (D := D) (ci := 4) (v := .ref a10) (ty := tyX4 4) (C := RX4) (T := TX4) (N := 7) hx hb hts hin4 tyX4 tyX4_ok nmX4 hown hK hP hD hS 0 rfl rfl 4 (by decide) (hts (.fieldLink RX4 19 "ProofMarksModel" "isSaved" "[Z") (List.mem_of_getElem? (i := 9) rfl)) (fun _ h9 => h9) rfl hin rfl (by decide +kernel) rfl rfl (Nat.le_of_ble_eq_true rfl) dX4_init_35 (fun H locs hP hD hS => ?_)
  have hP : va_P D vwCl ([(a0, .inr (4, [.ref a1, .ref a4, .int 0, .ref a7, .ref a10, .null, .int 0])), (a1, .inl (y 0, 172, .inl (pm_i1 0))), (a4, .inl (y 0, 1032, .inl (fun _ => 0))), (a7, .inl (y 0, 344, .inl (fun _ => 0))), (a10, .inl (y 2, 2, .inl (pm_vn (fun _ => 0))))]) H := hP
  have hD : va_D A ([(a0, .inr (4, [.ref a1, .ref a4, .int 0, .ref a7, .ref a10, .null, .int 0])), (a1, .inl (y 0, 172, .inl (pm_i1 0))), (a4, .inl (y 0, 1032, .inl (fun _ => 0))), (a7, .inl (y 0, 344, .inl (fun _ => 0))), (a10, .inl (y 2, 2, .inl (pm_vn (fun _ => 0))))]) := hD
  refine lv_aload_n hx hb dX4_init_38 rfl (lv_at hl 0 rfl) ?_
  refine lv_bipush (v := nI 80) hx hb dX4_init_39 (by decide) ?_
  refine va_newa (atype := .int) (n := nI 80) (N' := 80) (a0 := (80, .inl (pm_vn (fun _ => 0)))) hx hb (hts (.arrayClass .int) (List.mem_of_getElem? (i := 4) rfl)) rfl hK hP hD hS hA (fun c => pm_zc c 80) (by decide) rfl (Nat.le_of_ble_eq_true rfl) (Nat.le_of_ble_eq_true rfl) (Nat.le_of_ble_eq_true rfl) dX4_init_41 (fun a13 cA14 H hK15 hP hD hS => ?_)
  obtain rfl := pm_same0 hK hK15
  have hP : va_P D vwCl ([(a0, .inr (4, [.ref a1, .ref a4, .int 0, .ref a7, .ref a10, .null, .int 0])), (a1, .inl (y 0, 172, .inl (pm_i1 0))), (a4, .inl (y 0, 1032, .inl (fun _ => 0))), (a7, .inl (y 0, 344, .inl (fun _ => 0))), (a10, .inl (y 2, 2, .inl (pm_vn (fun _ => 0)))), (a13, .inl (y 0, 80, .inl (pm_vn (fun _ => 0))))]) H := hP
  have hD : va_D A ([(a0, .inr (4, [.ref a1, .ref a4, .int 0, .ref a7, .ref a10, .null, .int 0])), (a1, .inl (y 0, 172, .inl (pm_i1 0))), (a4, .inl (y 0, 1032, .inl (fun _ => 0))), (a7, .inl (y 0, 344, .inl (fun _ => 0))), (a10, .inl (y 2, 2, .inl (pm_vn (fun _ => 0)))), (a13, .inl (y 0, 80, .inl (pm_vn (fun _ => 0))))]) := hD
  refine va_putF (D := D) (ci := 4) (v := .ref a13) (ty := tyX4 5) (C := RX4) (T := TX4) (N := 7) hx hb hts hin4 tyX4 tyX4_ok nmX4 hown hK hP hD hS 0 rfl rfl 5 (by decide) (hts (.fieldLink RX4 23 "ProofMarksModel" "pad" "[I") (List.mem_of_getElem? (i := 10) rfl)) (fun _ h9 => h9) rfl hin rfl (by decide +kernel) rfl rfl (Nat.le_of_ble_eq_true rfl) dX4_init_43 (fun H locs hP hD hS => ?_)
  have hP : va_P D vwCl ([(a0, .inr (4, [.ref a1, .ref a4, .int 0, .ref a7, .ref a10, .ref a13, .int 0])), (a1, .inl (y 0, 172, .inl (pm_i1 0))), (a4, .inl (y 0, 1032, .inl (fun _ => 0))), (a7, .inl (y 0, 344, .inl (fun _ => 0))), (a10, .inl (y 2, 2, .inl (pm_vn (fun _ => 0)))), (a13, .inl (y 0, 80, .inl (pm_vn (fun _ => 0))))]) H := hP
  have hD : va_D A ([(a0, .inr (4, [.ref a1, .ref a4, .int 0, .ref a7, .ref a10, .ref a13, .int 0])), (a1, .inl (y 0, 172, .inl (pm_i1 0))), (a4, .inl (y 0, 1032, .inl (fun _ => 0))), (a7, .inl (y 0, 344, .inl (fun _ => 0))), (a10, .inl (y 2, 2, .inl (pm_vn (fun _ => 0)))), (a13, .inl (y 0, 80, .inl (pm_vn (fun _ => 0))))]) := hD
  refine lv_iconst (v := nI 0) hx hb dX4_init_46 (by decide) ?_
  refine lv_istore_n (lv' := [(1, .int (nI 0)), (0, .ref a0)]) hx hb dX4_init_47 rfl hl (by decide) rfl (fun ls hl => ?_)
  have LOOP48 : ∀ (n i : Nat) (ls : Array Slot) (H : Heap) (locs : List Loc), va_P D vwCl ([(a0, .inr (4, [.ref a1, .ref a4, .int 0, .ref a7, .ref a10, .ref a13, .int 0])), (a1, .inl (y 0, 172, .inl (pm_i1 i))), (a4, .inl (y 0, 1032, .inl (fun _ => 0))), (a7, .inl (y 0, 344, .inl (fun _ => 0))), (a10, .inl (y 2, 2, .inl (pm_vn (fun _ => 0)))), (a13, .inl (y 0, 80, .inl (pm_vn (fun _ => 0))))]) H → va_D A ([(a0, .inr (4, [.ref a1, .ref a4, .int 0, .ref a7, .ref a10, .ref a13, .int 0])), (a1, .inl (y 0, 172, .inl (pm_i1 i))), (a4, .inl (y 0, 1032, .inl (fun _ => 0))), (a7, .inl (y 0, 344, .inl (fun _ => 0))), (a10, .inl (y 2, 2, .inl (pm_vn (fun _ => 0)))), (a13, .inl (y 0, 80, .inl (pm_vn (fun _ => 0))))]) → va_S A s.heap H locs → i ≤ 30 → 30 - i < n → lv_has ls 2 [(0, .ref a0), (1, .int (nI i))] → W p l e (headSpec wsX4_init ({ frames := 1, cells := 5, slots := 1630, locals := 21 } : Room)).room s m ([.ref a0] : List Value).toArray below meth c H locs 5 1630 (MQ below (va_Qv (fun (u : Nat → Nat) => u 0 = a0) (fun (u : Nat → Nat) t => va_P D vwCl (pm_mo y u pm_S0 (fun _ => 0) (fun _ => 0) 0 0 (fun _ => 0) (fun _ => 0)) t.heap ∧ va_D A (pm_mo y u pm_S0 (fun _ => 0) (fun _ => 0) 0 0 (fun _ => 0) (fun _ => 0))) A) ([.ref a0] : List Value).toArray s 5 1630 A) (F0 m 48 ls []) := by
    intro n
    induction n with
    | zero => intro i _ _ _ _ _ _ hi hn; omega
    | succ n ih16 =>
      intro i ls H locs  hP hD hS hi_i hn_i hl 
      refine lv_iload_n hx hb dX4_init_48 rfl (lv_at hl 1 rfl) ?_
      refine lv_bipush (v := nI 30) hx hb dX4_init_49 (by decide) ?_
      refine kx_icmp_ge (tgt := 71) hx hb (by omega) (by decide) dX4_init_51 (by decide) (fun c17 => ?_) (fun c17 => ?_)
      · skip
        have e18 : i = 30 := by omega
        subst e18
        have hP : va_P D vwCl ([(a0, .inr (4, [.ref a1, .ref a4, .int 0, .ref a7, .ref a10, .ref a13, .int 0])), (a1, .inl (y 0, 172, .inl (pm_i2 0))), (a4, .inl (y 0, 1032, .inl (fun _ => 0))), (a7, .inl (y 0, 344, .inl (fun _ => 0))), (a10, .inl (y 2, 2, .inl (pm_vn (fun _ => 0)))), (a13, .inl (y 0, 80, .inl (pm_vn (fun _ => 0))))]) H := by rw [pm_i2_0]; exact hP
        have hD : va_D A ([(a0, .inr (4, [.ref a1, .ref a4, .int 0, .ref a7, .ref a10, .ref a13, .int 0])), (a1, .inl (y 0, 172, .inl (pm_i2 0))), (a4, .inl (y 0, 1032, .inl (fun _ => 0))), (a7, .inl (y 0, 344, .inl (fun _ => 0))), (a10, .inl (y 2, 2, .inl (pm_vn (fun _ => 0)))), (a13, .inl (y 0, 80, .inl (pm_vn (fun _ => 0))))]) := pm_D_same (w := [(a0, .inr (4, [.ref a1, .ref a4, .int 0, .ref a7, .ref a10, .ref a13, .int 0])), (a1, .inl (y 0, 172, .inl (pm_i1 30))), (a4, .inl (y 0, 1032, .inl (fun _ => 0))), (a7, .inl (y 0, 344, .inl (fun _ => 0))), (a10, .inl (y 2, 2, .inl (pm_vn (fun _ => 0)))), (a13, .inl (y 0, 80, .inl (pm_vn (fun _ => 0))))]) rfl hD
        refine lv_iconst (v := nI 0) hx hb dX4_init_71 (by decide) ?_
        refine lv_istore_n (lv' := [(1, .int (nI 0)), (0, .ref a0)]) hx hb dX4_init_72 rfl hl (by decide) rfl (fun ls hl => ?_)
        have LOOP73 : ∀ (n i : Nat) (ls : Array Slot) (H : Heap) (locs : List Loc), va_P D vwCl ([(a0, .inr (4, [.ref a1, .ref a4, .int 0, .ref a7, .ref a10, .ref a13, .int 0])), (a1, .inl (y 0, 172, .inl (pm_i2 i))), (a4, .inl (y 0, 1032, .inl (fun _ => 0))), (a7, .inl (y 0, 344, .inl (fun _ => 0))), (a10, .inl (y 2, 2, .inl (pm_vn (fun _ => 0)))), (a13, .inl (y 0, 80, .inl (pm_vn (fun _ => 0))))]) H → va_D A ([(a0, .inr (4, [.ref a1, .ref a4, .int 0, .ref a7, .ref a10, .ref a13, .int 0])), (a1, .inl (y 0, 172, .inl (pm_i2 i))), (a4, .inl (y 0, 1032, .inl (fun _ => 0))), (a7, .inl (y 0, 344, .inl (fun _ => 0))), (a10, .inl (y 2, 2, .inl (pm_vn (fun _ => 0)))), (a13, .inl (y 0, 80, .inl (pm_vn (fun _ => 0))))]) → va_S A s.heap H locs → i ≤ 3 → 3 - i < n → lv_has ls 2 [(0, .ref a0), (1, .int (nI i))] → W p l e (headSpec wsX4_init ({ frames := 1, cells := 5, slots := 1630, locals := 21 } : Room)).room s m ([.ref a0] : List Value).toArray below meth c H locs 5 1630 (MQ below (va_Qv (fun (u : Nat → Nat) => u 0 = a0) (fun (u : Nat → Nat) t => va_P D vwCl (pm_mo y u pm_S0 (fun _ => 0) (fun _ => 0) 0 0 (fun _ => 0) (fun _ => 0)) t.heap ∧ va_D A (pm_mo y u pm_S0 (fun _ => 0) (fun _ => 0) 0 0 (fun _ => 0) (fun _ => 0))) A) ([.ref a0] : List Value).toArray s 5 1630 A) (F0 m 73 ls []) := by
          intro n
          induction n with
          | zero => intro i _ _ _ _ _ _ hi hn; omega
          | succ n ih19 =>
            intro i ls H locs  hP hD hS hi_i hn_i hl 
            refine lv_iload_n hx hb dX4_init_73 rfl (lv_at hl 1 rfl) ?_
            refine lv_iconst (v := nI 3) hx hb dX4_init_74 (by decide) ?_
            refine kx_icmp_ge (tgt := 95) hx hb (by omega) (by decide) dX4_init_75 (by decide) (fun c20 => ?_) (fun c20 => ?_)
            · skip
              have e21 : i = 3 := by omega
              subst e21
              refine lv_aload_n hx hb dX4_init_95 rfl (lv_at hl 0 rfl) ?_
              refine va_get (D := D) (ci := 4) (v := .ref a1) (C := RX4) (T := TX4) (N := 7) hx hb hts hin4 hown hK hP 0 rfl rfl 0 (by decide) (hts (.fieldLink RX4 7 "ProofMarksModel" "s" "[I") (List.mem_of_getElem? (i := 5) rfl)) (fun _ h9 => h9) rfl dX4_init_96 ?_
              refine lv_sipush (v := nI 162) hx hb dX4_init_99 (by decide) ?_
              refine lv_iconst (v := nI 2) hx hb dX4_init_102 (by decide) ?_
              refine kx_iast (ws' := [(a0, .inr (4, [.ref a1, .ref a4, .int 0, .ref a7, .ref a10, .ref a13, .int 0])), (a1, .inl (y 0, 172, .inl (upd (pm_i2 3) 162 (nI 2)))), (a4, .inl (y 0, 1032, .inl (fun _ => 0))), (a7, .inl (y 0, 344, .inl (fun _ => 0))), (a10, .inl (y 2, 2, .inl (pm_vn (fun _ => 0)))), (a13, .inl (y 0, 80, .inl (pm_vn (fun _ => 0))))]) hx hb hK hP hD hS 1 0 rfl rfl (by omega) (by decide) rfl rfl dX4_init_103 (fun H locs hP hD hS => ?_)
              refine lv_aload_n hx hb dX4_init_104 rfl (lv_at hl 0 rfl) ?_
              refine va_get (D := D) (ci := 4) (v := .ref a1) (C := RX4) (T := TX4) (N := 7) hx hb hts hin4 hown hK hP 0 rfl rfl 0 (by decide) (hts (.fieldLink RX4 7 "ProofMarksModel" "s" "[I") (List.mem_of_getElem? (i := 5) rfl)) (fun _ h9 => h9) rfl dX4_init_105 ?_
              refine lv_sipush (v := nI 163) hx hb dX4_init_108 (by decide) ?_
              refine lv_iconst (v := nI 3) hx hb dX4_init_111 (by decide) ?_
              refine kx_iast (ws' := [(a0, .inr (4, [.ref a1, .ref a4, .int 0, .ref a7, .ref a10, .ref a13, .int 0])), (a1, .inl (y 0, 172, .inl (upd (upd (pm_i2 3) 162 (nI 2)) 163 (nI 3)))), (a4, .inl (y 0, 1032, .inl (fun _ => 0))), (a7, .inl (y 0, 344, .inl (fun _ => 0))), (a10, .inl (y 2, 2, .inl (pm_vn (fun _ => 0)))), (a13, .inl (y 0, 80, .inl (pm_vn (fun _ => 0))))]) hx hb hK hP hD hS 1 0 rfl rfl (by omega) (by decide) rfl rfl dX4_init_112 (fun H locs hP hD hS => ?_)
              refine lv_aload_n hx hb dX4_init_113 rfl (lv_at hl 0 rfl) ?_
              refine va_get (D := D) (ci := 4) (v := .ref a1) (C := RX4) (T := TX4) (N := 7) hx hb hts hin4 hown hK hP 0 rfl rfl 0 (by decide) (hts (.fieldLink RX4 7 "ProofMarksModel" "s" "[I") (List.mem_of_getElem? (i := 5) rfl)) (fun _ h9 => h9) rfl dX4_init_114 ?_
              refine lv_sipush (v := nI 164) hx hb dX4_init_117 (by decide) ?_
              refine lv_iconst (v := nI 2) hx hb dX4_init_120 (by decide) ?_
              refine kx_iast (ws' := [(a0, .inr (4, [.ref a1, .ref a4, .int 0, .ref a7, .ref a10, .ref a13, .int 0])), (a1, .inl (y 0, 172, .inl (upd (upd (upd (pm_i2 3) 162 (nI 2)) 163 (nI 3)) 164 (nI 2)))), (a4, .inl (y 0, 1032, .inl (fun _ => 0))), (a7, .inl (y 0, 344, .inl (fun _ => 0))), (a10, .inl (y 2, 2, .inl (pm_vn (fun _ => 0)))), (a13, .inl (y 0, 80, .inl (pm_vn (fun _ => 0))))]) hx hb hK hP hD hS 1 0 rfl rfl (by omega) (by decide) rfl rfl dX4_init_121 (fun H locs hP hD hS => ?_)
              refine lv_aload_n hx hb dX4_init_122 rfl (lv_at hl 0 rfl) ?_
              refine va_get (D := D) (ci := 4) (v := .ref a1) (C := RX4) (T := TX4) (N := 7) hx hb hts hin4 hown hK hP 0 rfl rfl 0 (by decide) (hts (.fieldLink RX4 7 "ProofMarksModel" "s" "[I") (List.mem_of_getElem? (i := 5) rfl)) (fun _ h9 => h9) rfl dX4_init_123 ?_
              refine lv_sipush (v := nI 165) hx hb dX4_init_126 (by decide) ?_
              refine lv_iconst (v := nI 2) hx hb dX4_init_129 (by decide) ?_
              refine kx_iast (ws' := [(a0, .inr (4, [.ref a1, .ref a4, .int 0, .ref a7, .ref a10, .ref a13, .int 0])), (a1, .inl (y 0, 172, .inl (upd (upd (upd (upd (pm_i2 3) 162 (nI 2)) 163 (nI 3)) 164 (nI 2)) 165 (nI 2)))), (a4, .inl (y 0, 1032, .inl (fun _ => 0))), (a7, .inl (y 0, 344, .inl (fun _ => 0))), (a10, .inl (y 2, 2, .inl (pm_vn (fun _ => 0)))), (a13, .inl (y 0, 80, .inl (pm_vn (fun _ => 0))))]) hx hb hK hP hD hS 1 0 rfl rfl (by omega) (by decide) rfl rfl dX4_init_130 (fun H locs hP hD hS => ?_)
              refine lv_aload_n hx hb dX4_init_131 rfl (lv_at hl 0 rfl) ?_
              refine va_get (D := D) (ci := 4) (v := .ref a1) (C := RX4) (T := TX4) (N := 7) hx hb hts hin4 hown hK hP 0 rfl rfl 0 (by decide) (hts (.fieldLink RX4 7 "ProofMarksModel" "s" "[I") (List.mem_of_getElem? (i := 5) rfl)) (fun _ h9 => h9) rfl dX4_init_132 ?_
              refine lv_sipush (v := nI 167) hx hb dX4_init_135 (by decide) ?_
              refine lv_sipush (v := nI 300) hx hb dX4_init_138 (by decide) ?_
              refine kx_iast (ws' := [(a0, .inr (4, [.ref a1, .ref a4, .int 0, .ref a7, .ref a10, .ref a13, .int 0])), (a1, .inl (y 0, 172, .inl (upd (upd (upd (upd (upd (pm_i2 3) 162 (nI 2)) 163 (nI 3)) 164 (nI 2)) 165 (nI 2)) 167 (nI 300)))), (a4, .inl (y 0, 1032, .inl (fun _ => 0))), (a7, .inl (y 0, 344, .inl (fun _ => 0))), (a10, .inl (y 2, 2, .inl (pm_vn (fun _ => 0)))), (a13, .inl (y 0, 80, .inl (pm_vn (fun _ => 0))))]) hx hb hK hP hD hS 1 0 rfl rfl (by omega) (by decide) rfl rfl dX4_init_141 (fun H locs hP hD hS => ?_)
              have h1 := pm_P_arr 1 hP rfl (g := pm_ms pm_S0) pm_i3_j rfl
              have hP9 : va_P D vwCl (pm_mo y (fun k => [a0, a1, a4, a7, a10, a13].getD k 0) pm_S0 (fun _ => 0) (fun _ => 0) 0 0 (fun _ => 0) (fun _ => 0)) H := h1
              have hD9 : va_D A (pm_mo y (fun k => [a0, a1, a4, a7, a10, a13].getD k 0) pm_S0 (fun _ => 0) (fun _ => 0) 0 0 (fun _ => 0) (fun _ => 0)) := pm_D_same (w := [(a0, .inr (4, [.ref a1, .ref a4, .int 0, .ref a7, .ref a10, .ref a13, .int 0])), (a1, .inl (y 0, 172, .inl (upd (upd (upd (upd (upd (pm_i2 3) 162 (nI 2)) 163 (nI 3)) 164 (nI 2)) 165 (nI 2)) 167 (nI 300)))), (a4, .inl (y 0, 1032, .inl (fun _ => 0))), (a7, .inl (y 0, 344, .inl (fun _ => 0))), (a10, .inl (y 2, 2, .inl (pm_vn (fun _ => 0)))), (a13, .inl (y 0, 80, .inl (pm_vn (fun _ => 0))))]) rfl hD
              exact W.vret hx hb hr (fun t ht _ => ⟨⟨(fun k => [a0, a1, a4, a7, a10, a13].getD k 0), rfl, rfl, by rw [ht]; exact hP9, hD9⟩, hS.F ht⟩) hS.2.2 dX4_init_142
            · skip
              refine lv_aload_n hx hb dX4_init_78 rfl (lv_at hl 0 rfl) ?_
              refine va_get (D := D) (ci := 4) (v := .ref a1) (C := RX4) (T := TX4) (N := 7) hx hb hts hin4 hown hK hP 0 rfl rfl 0 (by decide) (hts (.fieldLink RX4 7 "ProofMarksModel" "s" "[I") (List.mem_of_getElem? (i := 5) rfl)) (fun _ h9 => h9) rfl dX4_init_79 ?_
              refine lv_iload_n hx hb dX4_init_82 rfl (lv_at hl 1 rfl) ?_
              refine lv_iconst (v := nI 0) hx hb dX4_init_83 (by decide) ?_
              refine vp_callSi (W.runS (As := [.int (nI i), .int (nI 0)]) (rest := [.ref a1]) ⟨hx, hb, hml, hown, hts⟩ (k_X4_of3 l i 0) (va_cwS 2 hts gX4_init_X4_of3 rfl rfl rfl hd_X4_of3 ⟨Nat.le_of_ble_eq_true rfl, Nat.le_of_ble_eq_true rfl⟩) ⟨pm_no_blind, pm_no_pre⟩ rfl rfl hl.1 rfl (lv_room (Nat.le_of_ble_eq_true rfl)) dX4_init_84 ⟨Nat.le_of_ble_eq_true rfl, Nat.le_of_ble_eq_true rfl⟩) (fun r22 h23 => ?_)
              obtain rfl : r22 = nI (150 + 4 * i + 0) := h23
              refine lv_iconst (v := nI 5) hx hb dX4_init_87 (by decide) ?_
              refine kx_iast (ws' := [(a0, .inr (4, [.ref a1, .ref a4, .int 0, .ref a7, .ref a10, .ref a13, .int 0])), (a1, .inl (y 0, 172, .inl (pm_i2 (i + 1)))), (a4, .inl (y 0, 1032, .inl (fun _ => 0))), (a7, .inl (y 0, 344, .inl (fun _ => 0))), (a10, .inl (y 2, 2, .inl (pm_vn (fun _ => 0)))), (a13, .inl (y 0, 80, .inl (pm_vn (fun _ => 0))))]) hx hb hK hP hD hS 1 0 rfl rfl (by omega) (by decide) (pm_i2_s (by omega) (by omega)) rfl dX4_init_88 (fun H locs hP hD hS => ?_)
              refine kx_iinc (a := i) (lv' := [(1, .int (nI (i + 1))), (0, .ref a0)]) hx hb dX4_init_89 hl (k := 1) rfl (by decide) rfl (fun ls hl => ?_)
              refine lv_goto (tgt := 73) hx hb dX4_init_92 (by decide) ?_
              exact ih19 (i + 1) ls H locs hP hD hS (by omega) (by omega) (by exact lv_sub hl [1, 0] rfl) 
        exact LOOP73 (3 + 1) 0 ls H locs hP hD hS (by omega) (by omega) (lv_sub hl [1, 0] rfl) 
      · skip
        refine lv_aload_n hx hb dX4_init_54 rfl (lv_at hl 0 rfl) ?_
        refine va_get (D := D) (ci := 4) (v := .ref a1) (C := RX4) (T := TX4) (N := 7) hx hb hts hin4 hown hK hP 0 rfl rfl 0 (by decide) (hts (.fieldLink RX4 7 "ProofMarksModel" "s" "[I") (List.mem_of_getElem? (i := 5) rfl)) (fun _ h9 => h9) rfl dX4_init_55 ?_
        refine lv_iload_n hx hb dX4_init_58 rfl (lv_at hl 1 rfl) ?_
        refine lv_iconst (v := nI 3) hx hb dX4_init_59 (by decide) ?_
        refine vp_callSi (W.runS (As := [.int (nI i), .int (nI 3)]) (rest := [.ref a1]) ⟨hx, hb, hml, hown, hts⟩ (k_X4_at l i 3) (va_cwS 2 hts gX4_init_X4_at rfl rfl rfl hd_X4_at ⟨Nat.le_of_ble_eq_true rfl, Nat.le_of_ble_eq_true rfl⟩) ⟨pm_no_blind, pm_no_pre⟩ rfl rfl hl.1 rfl (lv_room (Nat.le_of_ble_eq_true rfl)) dX4_init_60 ⟨Nat.le_of_ble_eq_true rfl, Nat.le_of_ble_eq_true rfl⟩) (fun r24 h25 => ?_)
        obtain rfl : r24 = nI (5 * i + 3) := h25
        refine lv_iconst (v := -1) hx hb dX4_init_63 (by decide) ?_
        refine kx_iast (ws' := [(a0, .inr (4, [.ref a1, .ref a4, .int 0, .ref a7, .ref a10, .ref a13, .int 0])), (a1, .inl (y 0, 172, .inl (pm_i1 (i + 1)))), (a4, .inl (y 0, 1032, .inl (fun _ => 0))), (a7, .inl (y 0, 344, .inl (fun _ => 0))), (a10, .inl (y 2, 2, .inl (pm_vn (fun _ => 0)))), (a13, .inl (y 0, 80, .inl (pm_vn (fun _ => 0))))]) hx hb hK hP hD hS 1 0 rfl rfl (by omega) (by decide) (pm_i1_s (by omega)) rfl dX4_init_64 (fun H locs hP hD hS => ?_)
        refine kx_iinc (a := i) (lv' := [(1, .int (nI (i + 1))), (0, .ref a0)]) hx hb dX4_init_65 hl (k := 1) rfl (by decide) rfl (fun ls hl => ?_)
        refine lv_goto (tgt := 48) hx hb dX4_init_68 (by decide) ?_
        exact ih16 (i + 1) ls H locs hP hD hS (by omega) (by omega) (by exact lv_sub hl [1, 0] rfl) 
  exact LOOP48 (30 + 1) 0 ls H locs hP hD hS (by omega) (by omega) (lv_sub hl [1, 0] rfl) 
