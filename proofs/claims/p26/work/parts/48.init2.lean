theorem pm_zc (c : ClassId) (n : Nat) : vp_cell c (n, .inl (pm_vn (fun _ => 0))) = arrV c n (fun _ => .int 0) := rfl
set_option maxHeartbeats 4000000 in
set_option maxRecDepth 100000 in
theorem k_X1_init (l : Launch) (D : va_G) (y : Nat → ClassId) (a0 sz : Nat)  : Met l yX1_init wsX1_init ({ frames := 1, cells := 1, slots := 80, locals := 12 } : Room) (pm_mkr D (pm_ty y) [.ref a0] ([(a0, .inr (1, [.null, .int 0, .int 0, .int 0, .int 0, .int 0, .int 0, .int 0]))]) sz) (pm_Qm D (fun (u : Nat → Nat) => u 0 = a0) (fun (u : Nat → Nat) => pm_pad y u (fun _ => 0) 0 0 0 0 0 0 0) ([(a0, .inr (1, [.null, .int 0, .int 0, .int 0, .int 0, .int 0, .int 0, .int 0]))]) sz) 1 80 (va_A ([(a0, .inr (1, [.null, .int 0, .int 0, .int 0, .int 0, .int 0, .int 0, .int 0]))]) sz) := by
  refine Met.ofW (cc := cX1_init) (maxL := 1) (ret := none) (by decide) rfl ?_
  intro p e s m args below meth c s₁ B hml hpre
  obtain ⟨rfl, hsz, hP, hK, hD0⟩ := hpre
  have hx := B.exec
  have hb := B.bytes
  have hr := B.returns
  have hts := atoms_spec (ws := wsX1_init) B.pre
  have hown : s.vm.findClass RX1 = some m.cls := findClass_of_methodNamed B.named
  have hlocks := B.notSynchronized
  have hin : meth.name = "<init>" := (name_of_methodNamed B.named B.method).1
  have hin1 : ∀ w ∈ u_ws RX1 TX1 8, w ∈ wsX1_init := fun w h => List.mem_cons_of_mem _ (List.mem_append_right _ h)
  have hP : va_P D vwCl ([(a0, .inr (1, [.null, .int 0, .int 0, .int 0, .int 0, .int 0, .int 0, .int 0]))]) s.heap := hP
  subst hsz
  have hD := hD0.self (sz := s.heap.size)
  unfold pm_Qm
  generalize hAe : va_A ([(a0, .inr (1, [.null, .int 0, .int 0, .int 0, .int 0, .int 0, .int 0, .int 0]))]) s.heap.size = A at hD ⊢
  have hA : ∀ q : Nat, s.heap.size ≤ q → A q := fun q h => by rw [← hAe]; exact Or.inr h
  have hS : va_S A s.heap s.heap [] := va_S.rf
  have hl := lv_entry ([.ref a0]) (n := 1) (Nat.le_of_ble_eq_true rfl)
  rw [lg_entry_eq]
  generalize (lg_sl ([.ref a0]) ++ List.replicate (1 - (lg_sl ([.ref a0])).length) Slot.unset).toArray = ls at hl ⊢
  have hl : lv_has ls 1 [(0, .ref a0)] := hl
  refine lv_aload_n hx hb dX1_init_0 rfl (lv_at hl 0 rfl) ?_
  refine W.objInit hx hb hown (hts (.methodLink RX1 3 objectInit) (List.mem_of_getElem? (i := 1) rfl)) (hts (.instanceMethod objectInit) (List.mem_of_getElem? (i := 2) rfl)) (hts (.code objectInit ⟨#[0xb1]⟩ 1 none) (List.mem_of_getElem? (i := 3) rfl)) rfl (by rw [hml]; exact hl.1) rfl dX1_init_1 (Nat.le_of_ble_eq_true rfl) (Nat.le_of_ble_eq_true rfl) ?_
  refine W.eq (g2 := F0 m 4 ls []) rfl ?_
  refine lv_aload_n hx hb dX1_init_4 rfl (lv_at hl 0 rfl) ?_
  refine lv_bipush (v := nI 80) hx hb dX1_init_5 (by decide) ?_
  refine va_newa (atype := .char) (n := nI 80) (N' := 80) (a0 := (80, .inl (pm_vn (fun _ => 0)))) hx hb (hts (.arrayClass .char) (List.mem_of_getElem? (i := 4) rfl)) rfl hK hP hD hS hA (fun c => pm_zc c 80) (by decide) rfl (Nat.le_of_ble_eq_true rfl) (Nat.le_of_ble_eq_true rfl) (Nat.le_of_ble_eq_true rfl) dX1_init_7 (fun a1 cA2 H hK3 hP hD hS => ?_)
  obtain rfl := pm_same1 hK hK3
  have hP : va_P D vwCl ([(a0, .inr (1, [.null, .int 0, .int 0, .int 0, .int 0, .int 0, .int 0, .int 0])), (a1, .inl (y 1, 80, .inl (pm_vn (fun _ => 0))))]) H := hP
  have hD : va_D A ([(a0, .inr (1, [.null, .int 0, .int 0, .int 0, .int 0, .int 0, .int 0, .int 0])), (a1, .inl (y 1, 80, .inl (pm_vn (fun _ => 0))))]) := hD
  refine va_putF (D := D) (ci := 1) (v := .ref a1) (ty := tyX1 0) (C := RX1) (T := TX1) (N := 8) hx hb hts hin1 tyX1 tyX1_ok nmX1 hown hK hP hD hS 0 rfl rfl 0 (by decide) (hts (.fieldLink RX1 11 "ProofMarks$Pad" "signs" "[C") (List.mem_of_getElem? (i := 5) rfl)) (fun _ h9 => h9) rfl hin rfl (by decide +kernel) rfl rfl (Nat.le_of_ble_eq_true rfl) dX1_init_9 (fun H locs hP hD hS => ?_)
  have hP : va_P D vwCl ([(a0, .inr (1, [.ref a1, .int 0, .int 0, .int 0, .int 0, .int 0, .int 0, .int 0])), (a1, .inl (y 1, 80, .inl (pm_vn (fun _ => 0))))]) H := hP
  have hD : va_D A ([(a0, .inr (1, [.ref a1, .int 0, .int 0, .int 0, .int 0, .int 0, .int 0, .int 0])), (a1, .inl (y 1, 80, .inl (pm_vn (fun _ => 0))))]) := hD
  refine lv_aload_n hx hb dX1_init_12 rfl (lv_at hl 0 rfl) ?_
  refine lv_iconst (v := nI 0) hx hb dX1_init_13 (by decide) ?_
  refine kx_put (D := D) (ci := 1) (v := .int (nI 0)) (ty := .int) (ws' := [(a0, .inr (1, [.ref a1, .int (nI 0), .int 0, .int 0, .int 0, .int 0, .int 0, .int 0])), (a1, .inl (y 1, 80, .inl (pm_vn (fun _ => 0))))]) (C := RX1) (T := TX1) (N := 8) hx hb hts hin1 tyX1 tyX1_ok nmX1 hown hK hP hD hS 0 rfl rfl 1 (by decide) (hts (.fieldLink RX1 15 "ProofMarks$Pad" "length" "I") (List.mem_of_getElem? (i := 6) rfl)) (fun _ h9 => h9) rfl (by decide +kernel) rfl rfl (Nat.le_of_ble_eq_true rfl) rfl dX1_init_14 (fun H locs hP hD hS => ?_)
  refine lv_aload_n hx hb dX1_init_17 rfl (lv_at hl 0 rfl) ?_
  refine lv_iconst (v := nI 0) hx hb dX1_init_18 (by decide) ?_
  refine kx_put (D := D) (ci := 1) (v := .int (nI 0)) (ty := .int) (ws' := [(a0, .inr (1, [.ref a1, .int (nI 0), .int (nI 0), .int 0, .int 0, .int 0, .int 0, .int 0])), (a1, .inl (y 1, 80, .inl (pm_vn (fun _ => 0))))]) (C := RX1) (T := TX1) (N := 8) hx hb hts hin1 tyX1 tyX1_ok nmX1 hown hK hP hD hS 0 rfl rfl 2 (by decide) (hts (.fieldLink RX1 19 "ProofMarks$Pad" "at" "I") (List.mem_of_getElem? (i := 7) rfl)) (fun _ h9 => h9) rfl (by decide +kernel) rfl rfl (Nat.le_of_ble_eq_true rfl) rfl dX1_init_19 (fun H locs hP hD hS => ?_)
  refine lv_aload_n hx hb dX1_init_22 rfl (lv_at hl 0 rfl) ?_
  refine lv_iconst (v := nI 0) hx hb dX1_init_23 (by decide) ?_
  refine kx_put (D := D) (ci := 1) (v := .int (nI 0)) (ty := .char) (ws' := [(a0, .inr (1, [.ref a1, .int (nI 0), .int (nI 0), .int (nI 0), .int 0, .int 0, .int 0, .int 0])), (a1, .inl (y 1, 80, .inl (pm_vn (fun _ => 0))))]) (C := RX1) (T := TX1) (N := 8) hx hb hts hin1 tyX1 tyX1_ok nmX1 hown hK hP hD hS 0 rfl rfl 3 (by decide) (hts (.fieldLink RX1 22 "ProofMarks$Pad" "order" "C") (List.mem_of_getElem? (i := 8) rfl)) (fun _ h9 => h9) rfl (by decide +kernel) (pk_charN (by decide)).1 (pk_charN (by decide)).2 (Nat.le_of_ble_eq_true rfl) rfl dX1_init_24 (fun H locs hP hD hS => ?_)
  refine lv_aload_n hx hb dX1_init_27 rfl (lv_at hl 0 rfl) ?_
  refine lv_iconst (v := nI 0) hx hb dX1_init_28 (by decide) ?_
  refine kx_put (D := D) (ci := 1) (v := .int (nI 0)) (ty := .int) (ws' := [(a0, .inr (1, [.ref a1, .int (nI 0), .int (nI 0), .int (nI 0), .int (nI 0), .int 0, .int 0, .int 0])), (a1, .inl (y 1, 80, .inl (pm_vn (fun _ => 0))))]) (C := RX1) (T := TX1) (N := 8) hx hb hts hin1 tyX1 tyX1_ok nmX1 hown hK hP hD hS 0 rfl rfl 4 (by decide) (hts (.fieldLink RX1 26 "ProofMarks$Pad" "editor" "I") (List.mem_of_getElem? (i := 9) rfl)) (fun _ h9 => h9) rfl (by decide +kernel) rfl rfl (Nat.le_of_ble_eq_true rfl) rfl dX1_init_29 (fun H locs hP hD hS => ?_)
  refine lv_aload_n hx hb dX1_init_32 rfl (lv_at hl 0 rfl) ?_
  refine lv_iconst (v := nI 0) hx hb dX1_init_33 (by decide) ?_
  refine kx_put (D := D) (ci := 1) (v := .int (nI 0)) (ty := .int) (ws' := [(a0, .inr (1, [.ref a1, .int (nI 0), .int (nI 0), .int (nI 0), .int (nI 0), .int (nI 0), .int 0, .int 0])), (a1, .inl (y 1, 80, .inl (pm_vn (fun _ => 0))))]) (C := RX1) (T := TX1) (N := 8) hx hb hts hin1 tyX1 tyX1_ok nmX1 hown hK hP hD hS 0 rfl rfl 5 (by decide) (hts (.fieldLink RX1 29 "ProofMarks$Pad" "other" "I") (List.mem_of_getElem? (i := 10) rfl)) (fun _ h9 => h9) rfl (by decide +kernel) rfl rfl (Nat.le_of_ble_eq_true rfl) rfl dX1_init_34 (fun H locs hP hD hS => ?_)
  refine lv_aload_n hx hb dX1_init_37 rfl (lv_at hl 0 rfl) ?_
  refine lv_iconst (v := nI 0) hx hb dX1_init_38 (by decide) ?_
  refine kx_put (D := D) (ci := 1) (v := .int (nI 0)) (ty := .int) (ws' := [(a0, .inr (1, [.ref a1, .int (nI 0), .int (nI 0), .int (nI 0), .int (nI 0), .int (nI 0), .int (nI 0), .int 0])), (a1, .inl (y 1, 80, .inl (pm_vn (fun _ => 0))))]) (C := RX1) (T := TX1) (N := 8) hx hb hts hin1 tyX1 tyX1_ok nmX1 hown hK hP hD hS 0 rfl rfl 6 (by decide) (hts (.fieldLink RX1 32 "ProofMarks$Pad" "number" "I") (List.mem_of_getElem? (i := 11) rfl)) (fun _ h9 => h9) rfl (by decide +kernel) rfl rfl (Nat.le_of_ble_eq_true rfl) rfl dX1_init_39 (fun H locs hP hD hS => ?_)
  refine lv_aload_n hx hb dX1_init_42 rfl (lv_at hl 0 rfl) ?_
  refine lv_iconst (v := nI 0) hx hb dX1_init_43 (by decide) ?_
  refine kx_put (D := D) (ci := 1) (v := .int (nI 0)) (ty := .int) (ws' := [(a0, .inr (1, [.ref a1, .int (nI 0), .int (nI 0), .int (nI 0), .int (nI 0), .int (nI 0), .int (nI 0), .int (nI 0)])), (a1, .inl (y 1, 80, .inl (pm_vn (fun _ => 0))))]) (C := RX1) (T := TX1) (N := 8) hx hb hts hin1 tyX1 tyX1_ok nmX1 hown hK hP hD hS 0 rfl rfl 7 (by decide) (hts (.fieldLink RX1 35 "ProofMarks$Pad" "size" "I") (List.mem_of_getElem? (i := 12) rfl)) (fun _ h9 => h9) rfl (by decide +kernel) rfl rfl (Nat.le_of_ble_eq_true rfl) rfl dX1_init_44 (fun H locs hP hD hS => ?_)
  have hP9 : va_P D vwCl (pm_pad y (fun k => [a0, a1].getD k 0) (fun _ => 0) 0 0 0 0 0 0 0) H := hP
  have hD9 : va_D A (pm_pad y (fun k => [a0, a1].getD k 0) (fun _ => 0) 0 0 0 0 0 0 0) := hD
  exact W.vret hx hb hr (fun t ht _ => ⟨⟨(fun k => [a0, a1].getD k 0), rfl, rfl, by rw [ht]; exact hP9, hD9⟩, hS.F ht⟩) hS.2.2 dX1_init_47

