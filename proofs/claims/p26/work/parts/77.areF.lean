set_option maxHeartbeats 4000000 in
set_option maxRecDepth 100000 in
theorem k_L_areFrames (l : Launch) (D : va_G) (y : Nat → ClassId) (L : Nat → Nat → Nat) (S : Nat → Nat → Nat) (Bs : Nat → Nat → Nat → Nat) (pi : Nat → Nat) (kn : Nat) (Gs : Nat → Nat → Nat → Nat) (sv : Nat → Nat) (U : pm_PT) (hI : pq_I S) : Met l yL_areFrames wsL_areFrames ({ frames := 6, cells := 1, slots := 4, locals := 129 } : Room) (pm_ron D (pm_ty y) [.ref (L 0 0)] (pm_cl y L S Bs pi kn Gs sv U)) (va_Qi (fun (r : Int32) (_ : Unit) => r = nI 1) (fun _ _ => True) (fun _ => False)) 1 4 (fun _ => False) := by
  refine Met.ofW (cc := cL_areFrames) (maxL := 18) (ret := (some .boolean)) (by decide) rfl ?_
  intro p e s m args below meth c s₁ B hml hpre
  obtain ⟨rfl, ⟨hP, hK⟩, hN⟩ := hpre
  have hx := B.exec
  have hb := B.bytes
  have hr := B.returns
  have hts := atoms_spec (ws := wsL_areFrames) B.pre
  have hown : s.vm.findClass RL = some m.cls := findClass_of_methodNamed B.named
  have hlocks := B.notSynchronized
  have hin3 : ∀ w ∈ u_ws RX3 TX3 5, w ∈ wsL_areFrames := fun w h => List.mem_cons_of_mem _ (List.mem_append_left _ (List.mem_append_left _ (List.mem_append_left _ (List.mem_append_right _ h))))
  have hin2 : ∀ w ∈ u_ws RX2 TX2 15, w ∈ wsL_areFrames := fun w h => List.mem_cons_of_mem _ (List.mem_append_left _ (List.mem_append_left _ (List.mem_append_right _ h)))
  have hin1 : ∀ w ∈ u_ws RX1 TX1 8, w ∈ wsL_areFrames := fun w h => List.mem_cons_of_mem _ (List.mem_append_left _ (List.mem_append_right _ h))
  have hin0 : ∀ w ∈ u_ws RX0 TX0 2, w ∈ wsL_areFrames := fun w h => List.mem_cons_of_mem _ (List.mem_append_right _ h)
  have hP : va_P D vwCl (pm_cl y L S Bs pi kn Gs sv U) s.heap := hP
  have hl := lv_entry ([.ref (L 0 0)]) (n := 18) (Nat.le_of_ble_eq_true rfl)
  rw [lg_entry_eq]
  generalize (lg_sl ([.ref (L 0 0)]) ++ List.replicate (18 - (lg_sl ([.ref (L 0 0)])).length) Slot.unset).toArray = ls at hl ⊢
  have hl : lv_has ls 18 [(0, .ref (L 0 0))] := hl
  have hP0 : va_P D vwCl (pm_cl y L S Bs pi kn Gs sv U) s.heap := hP
  have hP : va_P D vwCl [] s.heap := fun k q h => by simp at h
  have hD : va_D (fun q : Nat => s.heap.size ≤ q) [] := ⟨fun i j p q h => by simp at h, fun k q h => by simp at h⟩
  have hS : va_S (fun q : Nat => s.heap.size ≤ q) s.heap s.heap [] := va_S.rf
  refine lv_iconst (v := nI 4) hx hb dL_areFrames_0 (by decide) ?_
  refine va_newa (atype := .int) (n := nI 4) (N' := 4) (a0 := (4, .inl (fun _ => 0))) hx hb (hts (.arrayClass .int) (List.mem_of_getElem? (i := 1) rfl)) rfl hK hP hD hS (fun _ h => h) (fun _ => rfl) (by decide) rfl (Nat.le_of_ble_eq_true rfl) (Nat.le_of_ble_eq_true rfl) (Nat.le_of_ble_eq_true rfl) dL_areFrames_1 (fun aw cA2 H hK1 hP hD hS => ?_)
  obtain rfl := pm_same0 hK hK1
  have hP : va_P D vwCl ([(aw, .inl (y 0, 4, .inl (pm_vn (fun j => pm_hm S j 0))))]) H := by rw [show (pm_vn (fun j => pm_hm S j 0)) = (fun _ => (0 : Int32)) from rfl]; exact hP
  have hD : va_D (fun q : Nat => s.heap.size ≤ q) [(aw, .inl (y 0, 4, .inl (pm_vn (fun j => pm_hm S j 0))))] := hD
  refine lv_astore_n (lv' := [(1, .ref aw), (0, .ref (L 0 0))]) hx hb dL_areFrames_3 rfl hl (by decide) rfl (fun ls hl => ?_)
  refine lv_iconst (v := nI 0) hx hb dL_areFrames_4 (by decide) ?_
  refine lv_istore_n (lv' := [(2, .int (nI 0)), (1, .ref aw), (0, .ref (L 0 0))]) hx hb dL_areFrames_5 rfl hl (by decide) rfl (fun ls hl => ?_)
  refine lv_iconst (v := nI 0) hx hb dL_areFrames_6 (by decide) ?_
  refine lv_istore_n (lv' := [(3, .int (nI 0)), (2, .int (nI 0)), (1, .ref aw), (0, .ref (L 0 0))]) hx hb dL_areFrames_7 rfl hl (by decide) rfl (fun ls hl => ?_)
  refine lv_iconst (v := nI 0) hx hb dL_areFrames_8 (by decide) ?_
  refine lv_istore (lv' := [(4, .int (nI 0)), (3, .int (nI 0)), (2, .int (nI 0)), (1, .ref aw), (0, .ref (L 0 0))]) hx hb dL_areFrames_9 hl (by decide) rfl (fun ls hl => ?_)
  refine lv_iconst (v := nI 0) hx hb dL_areFrames_11 (by decide) ?_
  refine lv_istore (lv' := [(5, .int (nI 0)), (4, .int (nI 0)), (3, .int (nI 0)), (2, .int (nI 0)), (1, .ref aw), (0, .ref (L 0 0))]) hx hb dL_areFrames_12 hl (by decide) rfl (fun ls hl => ?_)
  refine lv_iconst (v := nI 0) hx hb dL_areFrames_14 (by decide) ?_
  refine lv_istore (lv' := [(6, .int (nI 0)), (5, .int (nI 0)), (4, .int (nI 0)), (3, .int (nI 0)), (2, .int (nI 0)), (1, .ref aw), (0, .ref (L 0 0))]) hx hb dL_areFrames_15 hl (by decide) rfl (fun ls hl => ?_)
  refine lv_iconst (v := nI 0) hx hb dL_areFrames_17 (by decide) ?_
  refine lv_istore (lv' := [(7, .int (nI 0)), (6, .int (nI 0)), (5, .int (nI 0)), (4, .int (nI 0)), (3, .int (nI 0)), (2, .int (nI 0)), (1, .ref aw), (0, .ref (L 0 0))]) hx hb dL_areFrames_18 hl (by decide) rfl (fun ls hl => ?_)
  refine lv_iconst (v := nI 0) hx hb dL_areFrames_20 (by decide) ?_
  refine lv_istore (lv' := [(8, .int (nI 0)), (7, .int (nI 0)), (6, .int (nI 0)), (5, .int (nI 0)), (4, .int (nI 0)), (3, .int (nI 0)), (2, .int (nI 0)), (1, .ref aw), (0, .ref (L 0 0))]) hx hb dL_areFrames_21 hl (by decide) rfl (fun ls hl => ?_)
  have LOOP23 : ∀ (n k : Nat) (ls : Array Slot) (H : Heap) (locs : List Loc), va_P D vwCl ([(aw, .inl ((y 0), 4, .inl (pm_vn (fun j => pm_hm S j k))))]) H → va_D (fun q : Nat => s.heap.size ≤ q) ([(aw, .inl ((y 0), 4, .inl (pm_vn (fun j => pm_hm S j k))))]) → va_S (fun q : Nat => s.heap.size ≤ q) s.heap H locs → k ≤ 30 → 30 - k < n → lv_has ls 18 [(0, .ref (L 0 0)), (1, .ref aw), (2, .int (nI (pm_pf S k))), (3, .int (nI (pm_rl S k))), (4, .int (nI (pm_lm S k))), (5, .int (nI (pm_bc S 1 k))), (6, .int (nI (pm_bc S 2 k))), (7, .int (nI (pm_bc S 0 k))), (8, .int (nI k))] → W p l e (headSpec wsL_areFrames ({ frames := 6, cells := 1, slots := 4, locals := 129 } : Room)).room s m ([.ref (L 0 0)] : List Value).toArray below meth c H locs 1 4 (MQ below (va_Qi (fun (r : Int32) (_ : Unit) => r = nI 1) (fun _ _ => True) (fun _ => False)) ([.ref (L 0 0)] : List Value).toArray s 1 4 (fun _ => False)) (F0 m 23 ls []) := by
    intro n
    induction n with
    | zero => intro k _ _ _ _ _ _ hi hn; omega
    | succ n ih3 =>
      intro k ls H locs  hP hD hS hi_k hn_k hl 
      refine lv_iload hx hb dL_areFrames_23 (lv_at hl 8 rfl) ?_
      refine lv_bipush (v := nI 30) hx hb dL_areFrames_25 (by decide) ?_
      refine kx_icmp_ge (tgt := 457) hx hb (by omega) (by decide) dL_areFrames_27 (by decide) (fun c4 => ?_) (fun c4 => ?_)
      · skip
        obtain rfl : k = 30 := by omega
        have := pm_pf_le hI.1.size 30 (by decide)
        have := pm_lm_le S 30
        refine lv_aload_n hx hb dL_areFrames_457 rfl (lv_at hl 0 rfl) ?_
        refine lv_iconst (v := nI 0) hx hb dL_areFrames_458 (by decide) ?_
        have hPc : va_P D vwCl (pm_cl y L S Bs pi kn Gs sv U) H := pq_kept hP0 hS
        refine vp_callSi (W.runV (As := [.int (nI 0)]) (rest := []) ⟨hx, hb, hml, hown, hts⟩ (k_X3_ifRound l D y L S Bs pi kn Gs sv U Bs Gs (nI 0) hI.1) (cwV 1 hts gL_areFrames_X3_ifRound rfl rfl rfl hd_X3_ifRound ⟨Nat.le_of_ble_eq_true rfl, Nat.le_of_ble_eq_true rfl⟩) ⟨pm_ro_blind, va_recv hK hPc (ci := 3) (q0 := 0) rfl rfl, pm_ro_pre hPc hK⟩ rfl rfl hl.1 rfl (lv_room (Nat.le_of_ble_eq_true rfl)) dL_areFrames_459 ⟨Nat.le_of_ble_eq_true rfl, Nat.le_of_ble_eq_true rfl⟩) (fun r5 h6 => ?_)
        obtain rfl : r5 = nI (pm_bc S 1 30) := h6.trans (pq_if0)
        have := pq_bc_le S 1 30
        refine lv_iload hx hb dL_areFrames_462 (lv_at hl 5 rfl) ?_
        refine kx_icmp_ne (tgt := 510) hx hb (by omega) (by omega) dL_areFrames_464 (by decide) (fun c7 => by exfalso; omega) (fun c7 => ?_)
        refine lv_aload_n hx hb dL_areFrames_467 rfl (lv_at hl 0 rfl) ?_
        refine lv_iconst (v := nI 1) hx hb dL_areFrames_468 (by decide) ?_
        have hPc : va_P D vwCl (pm_cl y L S Bs pi kn Gs sv U) H := pq_kept hP0 hS
        refine vp_callSi (W.runV (As := [.int (nI 1)]) (rest := []) ⟨hx, hb, hml, hown, hts⟩ (k_X3_ifRound l D y L S Bs pi kn Gs sv U Bs Gs (nI 1) hI.1) (cwV 1 hts gL_areFrames_X3_ifRound rfl rfl rfl hd_X3_ifRound ⟨Nat.le_of_ble_eq_true rfl, Nat.le_of_ble_eq_true rfl⟩) ⟨pm_ro_blind, va_recv hK hPc (ci := 3) (q0 := 0) rfl rfl, pm_ro_pre hPc hK⟩ rfl rfl hl.1 rfl (lv_room (Nat.le_of_ble_eq_true rfl)) dL_areFrames_469 ⟨Nat.le_of_ble_eq_true rfl, Nat.le_of_ble_eq_true rfl⟩) (fun r8 h9 => ?_)
        obtain rfl : r8 = nI (pm_bc S 2 30) := h9.trans (pq_if1)
        have := pq_bc_le S 2 30
        refine lv_iload hx hb dL_areFrames_472 (lv_at hl 6 rfl) ?_
        refine kx_icmp_ne (tgt := 510) hx hb (by omega) (by omega) dL_areFrames_474 (by decide) (fun c10 => by exfalso; omega) (fun c10 => ?_)
        refine lv_aload_n hx hb dL_areFrames_477 rfl (lv_at hl 0 rfl) ?_
        refine lv_iconst (v := nI 2) hx hb dL_areFrames_478 (by decide) ?_
        have hPc : va_P D vwCl (pm_cl y L S Bs pi kn Gs sv U) H := pq_kept hP0 hS
        refine vp_callSi (W.runV (As := [.int (nI 2)]) (rest := []) ⟨hx, hb, hml, hown, hts⟩ (k_X3_ifRound l D y L S Bs pi kn Gs sv U Bs Gs (nI 2) hI.1) (cwV 1 hts gL_areFrames_X3_ifRound rfl rfl rfl hd_X3_ifRound ⟨Nat.le_of_ble_eq_true rfl, Nat.le_of_ble_eq_true rfl⟩) ⟨pm_ro_blind, va_recv hK hPc (ci := 3) (q0 := 0) rfl rfl, pm_ro_pre hPc hK⟩ rfl rfl hl.1 rfl (lv_room (Nat.le_of_ble_eq_true rfl)) dL_areFrames_479 ⟨Nat.le_of_ble_eq_true rfl, Nat.le_of_ble_eq_true rfl⟩) (fun r11 h12 => ?_)
        obtain rfl : r11 = nI (pm_bc S 0 30) := h12.trans (pq_if2)
        have := pq_bc_le S 0 30
        refine lv_iload hx hb dL_areFrames_482 (lv_at hl 7 rfl) ?_
        refine kx_icmp_ne (tgt := 510) hx hb (by omega) (by omega) dL_areFrames_484 (by decide) (fun c13 => by exfalso; omega) (fun c13 => ?_)
        refine lv_aload_n hx hb dL_areFrames_487 rfl (lv_at hl 0 rfl) ?_
        have hPc : va_P D vwCl (pm_cl y L S Bs pi kn Gs sv U) H := pq_kept hP0 hS
        refine vp_callSi (W.runV (As := []) (rest := []) ⟨hx, hb, hml, hown, hts⟩ (k_X3_paperFor l D y L S Bs pi kn Gs sv U Bs Gs  hI.1) (cwV 0 hts gL_areFrames_X3_paperFor rfl rfl rfl hd_X3_paperFor ⟨Nat.le_of_ble_eq_true rfl, Nat.le_of_ble_eq_true rfl⟩) ⟨pm_ro_blind, va_recv hK hPc (ci := 3) (q0 := 0) rfl rfl, pm_ro_pre hPc hK⟩ rfl rfl hl.1 rfl (lv_room (Nat.le_of_ble_eq_true rfl)) dL_areFrames_488 ⟨Nat.le_of_ble_eq_true rfl, Nat.le_of_ble_eq_true rfl⟩) (fun r14 h15 => ?_)
        obtain rfl : r14 = nI (pm_pf S 30) := h15
        refine lv_iload_n hx hb dL_areFrames_491 rfl (lv_at hl 2 rfl) ?_
        refine kx_icmp_ne (tgt := 510) hx hb (by omega) (by omega) dL_areFrames_492 (by decide) (fun c16 => by exfalso; omega) (fun c16 => ?_)
        refine lv_aload_n hx hb dL_areFrames_495 rfl (lv_at hl 0 rfl) ?_
        refine lv_bipush (v := nI 10) hx hb dL_areFrames_496 (by decide) ?_
        have hPc : va_P D vwCl (pm_cl y L S Bs pi kn Gs sv U) H := pq_kept hP0 hS
        refine vp_callSi (W.runV (As := [.int (nI 10)]) (rest := []) ⟨hx, hb, hml, hown, hts⟩ (k_X3_count l D y L S Bs pi kn Gs sv U Bs Gs (nI 10) hI.1) (cwV 1 hts gL_areFrames_X3_count rfl rfl rfl hd_X3_count ⟨Nat.le_of_ble_eq_true rfl, Nat.le_of_ble_eq_true rfl⟩) ⟨pm_ron_blind, va_recv hK hPc (ci := 3) (q0 := 0) rfl rfl, pm_ron_pre hPc hK hN⟩ rfl rfl hl.1 rfl (lv_room (Nat.le_of_ble_eq_true rfl)) dL_areFrames_498 ⟨Nat.le_of_ble_eq_true rfl, Nat.le_of_ble_eq_true rfl⟩) (fun r17 h18 => ?_)
        obtain rfl : r17 = nI (pm_lm S 30) := h18.trans (pq_co10)
        have := pm_lm_le S 30
        refine lv_iload hx hb dL_areFrames_501 (lv_at hl 4 rfl) ?_
        refine kx_icmp_ne (tgt := 510) hx hb (by omega) (by omega) dL_areFrames_503 (by decide) (fun c19 => by exfalso; omega) (fun c19 => ?_)
        refine lv_iconst (v := nI 1) hx hb dL_areFrames_506 (by decide) ?_
        refine lv_goto (tgt := 511) hx hb dL_areFrames_507 (by decide) ?_
        refine lv_istore (lv' := [(8, .int (nI 1)), (0, .ref (L 0 0)), (1, .ref aw), (2, .int (nI (pm_pf S 30))), (3, .int (nI (pm_rl S 30))), (4, .int (nI (pm_lm S 30))), (5, .int (nI (pm_bc S 1 30))), (6, .int (nI (pm_bc S 2 30))), (7, .int (nI (pm_bc S 0 30)))]) hx hb dL_areFrames_511 hl (by decide) rfl (fun ls hl => ?_)
        refine lv_iconst (v := nI 0) hx hb dL_areFrames_513 (by decide) ?_
        refine lv_istore (lv' := [(9, .int (nI 0)), (8, .int (nI 1)), (0, .ref (L 0 0)), (1, .ref aw), (2, .int (nI (pm_pf S 30))), (3, .int (nI (pm_rl S 30))), (4, .int (nI (pm_lm S 30))), (5, .int (nI (pm_bc S 1 30))), (6, .int (nI (pm_bc S 2 30))), (7, .int (nI (pm_bc S 0 30)))]) hx hb dL_areFrames_514 hl (by decide) rfl (fun ls hl => ?_)
        refine lv_iload hx hb dL_areFrames_516 (lv_at hl 0 rfl) ?_
        refine lv_iconst (v := nI 4) hx hb dL_areFrames_518 (by decide) ?_
        refine lv_icmp_ge (tgt := 555) hx hb dL_areFrames_519 (by decide) (fun c20 => absurd c20 (by decide)) (fun _ => ?_)
        refine lv_iload hx hb dL_areFrames_522 (lv_at hl 1 rfl) ?_
        refine lv_if_eq (tgt := 546) hx hb dL_areFrames_524 (by decide) (fun c21 => absurd c21 (by decide)) (fun _ => ?_)
        refine lv_aload_n hx hb dL_areFrames_527 rfl (lv_at hl 2 rfl) ?_
        refine lv_iconst (v := nI 1) hx hb dL_areFrames_528 (by decide) ?_
        refine lv_iload hx hb dL_areFrames_529 (lv_at hl 0 rfl) ?_
        refine kx_iadd hx hb dL_areFrames_531 ?_
        refine lv_topi (fun x22 e23 => ?_)
        obtain rfl : x22 = nI 1 := e23.trans (rfl)
        have hPc : va_P D vwCl (pm_cl y L S Bs pi kn Gs sv U) H := pq_kept hP0 hS
        refine vp_callSi (W.runV (As := [.int (nI 1)]) (rest := []) ⟨hx, hb, hml, hown, hts⟩ (k_X3_count l D y L S Bs pi kn Gs sv U Bs Gs (nI 1) hI.1) (cwV 1 hts gL_areFrames_X3_count rfl rfl rfl hd_X3_count ⟨Nat.le_of_ble_eq_true rfl, Nat.le_of_ble_eq_true rfl⟩) ⟨pm_ron_blind, va_recv hK hPc (ci := 3) (q0 := 0) rfl rfl, pm_ron_pre hPc hK hN⟩ rfl rfl hl.1 rfl (lv_room (Nat.le_of_ble_eq_true rfl)) dL_areFrames_532 ⟨Nat.le_of_ble_eq_true rfl, Nat.le_of_ble_eq_true rfl⟩) (fun r24 h25 => ?_)
        obtain rfl : r24 = nI (pm_hm S 0 30) := h25.trans (pq_co1)
        have := pq_hm_le S 0 30
        refine lv_aload_n hx hb dL_areFrames_535 rfl (lv_at hl 3 rfl) ?_
        refine lv_iload hx hb dL_areFrames_536 (lv_at hl 0 rfl) ?_
        refine kx_iald (v := nI (pm_hm S 0 30)) hx hb hK hP 0 0 rfl rfl (by decide) (by decide) rfl dL_areFrames_538 ?_
        refine kx_icmp_ne (tgt := 546) hx hb (by omega) (by omega) dL_areFrames_539 (by decide) (fun c26 => by exfalso; omega) (fun c26 => ?_)
        refine lv_iconst (v := nI 1) hx hb dL_areFrames_542 (by decide) ?_
        refine lv_goto (tgt := 547) hx hb dL_areFrames_543 (by decide) ?_
        refine lv_istore (lv' := [(8, .int (nI 1)), (9, .int (nI 0)), (0, .ref (L 0 0)), (1, .ref aw), (2, .int (nI (pm_pf S 30))), (3, .int (nI (pm_rl S 30))), (4, .int (nI (pm_lm S 30))), (5, .int (nI (pm_bc S 1 30))), (6, .int (nI (pm_bc S 2 30))), (7, .int (nI (pm_bc S 0 30)))]) hx hb dL_areFrames_547 hl (by decide) rfl (fun ls hl => ?_)
        refine lv_iinc (v := nI 1) (lv' := [(9, .int (nI 1)), (8, .int (nI 1)), (0, .ref (L 0 0)), (1, .ref aw), (2, .int (nI (pm_pf S 30))), (3, .int (nI (pm_rl S 30))), (4, .int (nI (pm_lm S 30))), (5, .int (nI (pm_bc S 1 30))), (6, .int (nI (pm_bc S 2 30))), (7, .int (nI (pm_bc S 0 30)))]) hx hb dL_areFrames_549 hl (k := 1) rfl (by decide) (by decide) rfl (fun ls hl => ?_)
        refine lv_goto (tgt := 516) hx hb dL_areFrames_552 (by decide) ?_
        refine lv_iload hx hb dL_areFrames_516 (lv_at hl 0 rfl) ?_
        refine lv_iconst (v := nI 4) hx hb dL_areFrames_518 (by decide) ?_
        refine lv_icmp_ge (tgt := 555) hx hb dL_areFrames_519 (by decide) (fun c27 => absurd c27 (by decide)) (fun _ => ?_)
        refine lv_iload hx hb dL_areFrames_522 (lv_at hl 1 rfl) ?_
        refine lv_if_eq (tgt := 546) hx hb dL_areFrames_524 (by decide) (fun c28 => absurd c28 (by decide)) (fun _ => ?_)
        refine lv_aload_n hx hb dL_areFrames_527 rfl (lv_at hl 2 rfl) ?_
        refine lv_iconst (v := nI 1) hx hb dL_areFrames_528 (by decide) ?_
        refine lv_iload hx hb dL_areFrames_529 (lv_at hl 0 rfl) ?_
        refine kx_iadd hx hb dL_areFrames_531 ?_
        refine lv_topi (fun x29 e30 => ?_)
        obtain rfl : x29 = nI 2 := e30.trans (rfl)
        have hPc : va_P D vwCl (pm_cl y L S Bs pi kn Gs sv U) H := pq_kept hP0 hS
        refine vp_callSi (W.runV (As := [.int (nI 2)]) (rest := []) ⟨hx, hb, hml, hown, hts⟩ (k_X3_count l D y L S Bs pi kn Gs sv U Bs Gs (nI 2) hI.1) (cwV 1 hts gL_areFrames_X3_count rfl rfl rfl hd_X3_count ⟨Nat.le_of_ble_eq_true rfl, Nat.le_of_ble_eq_true rfl⟩) ⟨pm_ron_blind, va_recv hK hPc (ci := 3) (q0 := 0) rfl rfl, pm_ron_pre hPc hK hN⟩ rfl rfl hl.1 rfl (lv_room (Nat.le_of_ble_eq_true rfl)) dL_areFrames_532 ⟨Nat.le_of_ble_eq_true rfl, Nat.le_of_ble_eq_true rfl⟩) (fun r31 h32 => ?_)
        obtain rfl : r31 = nI (pm_hm S 1 30) := h32.trans (pq_co2)
        have := pq_hm_le S 1 30
        refine lv_aload_n hx hb dL_areFrames_535 rfl (lv_at hl 3 rfl) ?_
        refine lv_iload hx hb dL_areFrames_536 (lv_at hl 0 rfl) ?_
        refine kx_iald (v := nI (pm_hm S 1 30)) hx hb hK hP 0 0 rfl rfl (by decide) (by decide) rfl dL_areFrames_538 ?_
        refine kx_icmp_ne (tgt := 546) hx hb (by omega) (by omega) dL_areFrames_539 (by decide) (fun c33 => by exfalso; omega) (fun c33 => ?_)
        refine lv_iconst (v := nI 1) hx hb dL_areFrames_542 (by decide) ?_
        refine lv_goto (tgt := 547) hx hb dL_areFrames_543 (by decide) ?_
        refine lv_istore (lv' := [(8, .int (nI 1)), (9, .int (nI 1)), (0, .ref (L 0 0)), (1, .ref aw), (2, .int (nI (pm_pf S 30))), (3, .int (nI (pm_rl S 30))), (4, .int (nI (pm_lm S 30))), (5, .int (nI (pm_bc S 1 30))), (6, .int (nI (pm_bc S 2 30))), (7, .int (nI (pm_bc S 0 30)))]) hx hb dL_areFrames_547 hl (by decide) rfl (fun ls hl => ?_)
        refine lv_iinc (v := nI 2) (lv' := [(9, .int (nI 2)), (8, .int (nI 1)), (0, .ref (L 0 0)), (1, .ref aw), (2, .int (nI (pm_pf S 30))), (3, .int (nI (pm_rl S 30))), (4, .int (nI (pm_lm S 30))), (5, .int (nI (pm_bc S 1 30))), (6, .int (nI (pm_bc S 2 30))), (7, .int (nI (pm_bc S 0 30)))]) hx hb dL_areFrames_549 hl (k := 1) rfl (by decide) (by decide) rfl (fun ls hl => ?_)
        refine lv_goto (tgt := 516) hx hb dL_areFrames_552 (by decide) ?_
        refine lv_iload hx hb dL_areFrames_516 (lv_at hl 0 rfl) ?_
        refine lv_iconst (v := nI 4) hx hb dL_areFrames_518 (by decide) ?_
        refine lv_icmp_ge (tgt := 555) hx hb dL_areFrames_519 (by decide) (fun c34 => absurd c34 (by decide)) (fun _ => ?_)
        refine lv_iload hx hb dL_areFrames_522 (lv_at hl 1 rfl) ?_
        refine lv_if_eq (tgt := 546) hx hb dL_areFrames_524 (by decide) (fun c35 => absurd c35 (by decide)) (fun _ => ?_)
        refine lv_aload_n hx hb dL_areFrames_527 rfl (lv_at hl 2 rfl) ?_
        refine lv_iconst (v := nI 1) hx hb dL_areFrames_528 (by decide) ?_
        refine lv_iload hx hb dL_areFrames_529 (lv_at hl 0 rfl) ?_
        refine kx_iadd hx hb dL_areFrames_531 ?_
        refine lv_topi (fun x36 e37 => ?_)
        obtain rfl : x36 = nI 3 := e37.trans (rfl)
        have hPc : va_P D vwCl (pm_cl y L S Bs pi kn Gs sv U) H := pq_kept hP0 hS
        refine vp_callSi (W.runV (As := [.int (nI 3)]) (rest := []) ⟨hx, hb, hml, hown, hts⟩ (k_X3_count l D y L S Bs pi kn Gs sv U Bs Gs (nI 3) hI.1) (cwV 1 hts gL_areFrames_X3_count rfl rfl rfl hd_X3_count ⟨Nat.le_of_ble_eq_true rfl, Nat.le_of_ble_eq_true rfl⟩) ⟨pm_ron_blind, va_recv hK hPc (ci := 3) (q0 := 0) rfl rfl, pm_ron_pre hPc hK hN⟩ rfl rfl hl.1 rfl (lv_room (Nat.le_of_ble_eq_true rfl)) dL_areFrames_532 ⟨Nat.le_of_ble_eq_true rfl, Nat.le_of_ble_eq_true rfl⟩) (fun r38 h39 => ?_)
        obtain rfl : r38 = nI (pm_hm S 2 30) := h39.trans (pq_co3)
        have := pq_hm_le S 2 30
        refine lv_aload_n hx hb dL_areFrames_535 rfl (lv_at hl 3 rfl) ?_
        refine lv_iload hx hb dL_areFrames_536 (lv_at hl 0 rfl) ?_
        refine kx_iald (v := nI (pm_hm S 2 30)) hx hb hK hP 0 0 rfl rfl (by decide) (by decide) rfl dL_areFrames_538 ?_
        refine kx_icmp_ne (tgt := 546) hx hb (by omega) (by omega) dL_areFrames_539 (by decide) (fun c40 => by exfalso; omega) (fun c40 => ?_)
        refine lv_iconst (v := nI 1) hx hb dL_areFrames_542 (by decide) ?_
        refine lv_goto (tgt := 547) hx hb dL_areFrames_543 (by decide) ?_
        refine lv_istore (lv' := [(8, .int (nI 1)), (9, .int (nI 2)), (0, .ref (L 0 0)), (1, .ref aw), (2, .int (nI (pm_pf S 30))), (3, .int (nI (pm_rl S 30))), (4, .int (nI (pm_lm S 30))), (5, .int (nI (pm_bc S 1 30))), (6, .int (nI (pm_bc S 2 30))), (7, .int (nI (pm_bc S 0 30)))]) hx hb dL_areFrames_547 hl (by decide) rfl (fun ls hl => ?_)
        refine lv_iinc (v := nI 3) (lv' := [(9, .int (nI 3)), (8, .int (nI 1)), (0, .ref (L 0 0)), (1, .ref aw), (2, .int (nI (pm_pf S 30))), (3, .int (nI (pm_rl S 30))), (4, .int (nI (pm_lm S 30))), (5, .int (nI (pm_bc S 1 30))), (6, .int (nI (pm_bc S 2 30))), (7, .int (nI (pm_bc S 0 30)))]) hx hb dL_areFrames_549 hl (k := 1) rfl (by decide) (by decide) rfl (fun ls hl => ?_)
        refine lv_goto (tgt := 516) hx hb dL_areFrames_552 (by decide) ?_
        refine lv_iload hx hb dL_areFrames_516 (lv_at hl 0 rfl) ?_
        refine lv_iconst (v := nI 4) hx hb dL_areFrames_518 (by decide) ?_
        refine lv_icmp_ge (tgt := 555) hx hb dL_areFrames_519 (by decide) (fun c41 => absurd c41 (by decide)) (fun _ => ?_)
        refine lv_iload hx hb dL_areFrames_522 (lv_at hl 1 rfl) ?_
        refine lv_if_eq (tgt := 546) hx hb dL_areFrames_524 (by decide) (fun c42 => absurd c42 (by decide)) (fun _ => ?_)
        refine lv_aload_n hx hb dL_areFrames_527 rfl (lv_at hl 2 rfl) ?_
        refine lv_iconst (v := nI 1) hx hb dL_areFrames_528 (by decide) ?_
        refine lv_iload hx hb dL_areFrames_529 (lv_at hl 0 rfl) ?_
        refine kx_iadd hx hb dL_areFrames_531 ?_
        refine lv_topi (fun x43 e44 => ?_)
        obtain rfl : x43 = nI 4 := e44.trans (rfl)
        have hPc : va_P D vwCl (pm_cl y L S Bs pi kn Gs sv U) H := pq_kept hP0 hS
        refine vp_callSi (W.runV (As := [.int (nI 4)]) (rest := []) ⟨hx, hb, hml, hown, hts⟩ (k_X3_count l D y L S Bs pi kn Gs sv U Bs Gs (nI 4) hI.1) (cwV 1 hts gL_areFrames_X3_count rfl rfl rfl hd_X3_count ⟨Nat.le_of_ble_eq_true rfl, Nat.le_of_ble_eq_true rfl⟩) ⟨pm_ron_blind, va_recv hK hPc (ci := 3) (q0 := 0) rfl rfl, pm_ron_pre hPc hK hN⟩ rfl rfl hl.1 rfl (lv_room (Nat.le_of_ble_eq_true rfl)) dL_areFrames_532 ⟨Nat.le_of_ble_eq_true rfl, Nat.le_of_ble_eq_true rfl⟩) (fun r45 h46 => ?_)
        obtain rfl : r45 = nI (pm_hm S 3 30) := h46.trans (pq_co4)
        have := pq_hm_le S 3 30
        refine lv_aload_n hx hb dL_areFrames_535 rfl (lv_at hl 3 rfl) ?_
        refine lv_iload hx hb dL_areFrames_536 (lv_at hl 0 rfl) ?_
        refine kx_iald (v := nI (pm_hm S 3 30)) hx hb hK hP 0 0 rfl rfl (by decide) (by decide) rfl dL_areFrames_538 ?_
        refine kx_icmp_ne (tgt := 546) hx hb (by omega) (by omega) dL_areFrames_539 (by decide) (fun c47 => by exfalso; omega) (fun c47 => ?_)
        refine lv_iconst (v := nI 1) hx hb dL_areFrames_542 (by decide) ?_
        refine lv_goto (tgt := 547) hx hb dL_areFrames_543 (by decide) ?_
        refine lv_istore (lv' := [(8, .int (nI 1)), (9, .int (nI 3)), (0, .ref (L 0 0)), (1, .ref aw), (2, .int (nI (pm_pf S 30))), (3, .int (nI (pm_rl S 30))), (4, .int (nI (pm_lm S 30))), (5, .int (nI (pm_bc S 1 30))), (6, .int (nI (pm_bc S 2 30))), (7, .int (nI (pm_bc S 0 30)))]) hx hb dL_areFrames_547 hl (by decide) rfl (fun ls hl => ?_)
        refine lv_iinc (v := nI 4) (lv' := [(9, .int (nI 4)), (8, .int (nI 1)), (0, .ref (L 0 0)), (1, .ref aw), (2, .int (nI (pm_pf S 30))), (3, .int (nI (pm_rl S 30))), (4, .int (nI (pm_lm S 30))), (5, .int (nI (pm_bc S 1 30))), (6, .int (nI (pm_bc S 2 30))), (7, .int (nI (pm_bc S 0 30)))]) hx hb dL_areFrames_549 hl (k := 1) rfl (by decide) (by decide) rfl (fun ls hl => ?_)
        refine lv_goto (tgt := 516) hx hb dL_areFrames_552 (by decide) ?_
        refine lv_iload hx hb dL_areFrames_516 (lv_at hl 0 rfl) ?_
        refine lv_iconst (v := nI 4) hx hb dL_areFrames_518 (by decide) ?_
        refine lv_icmp_ge (tgt := 555) hx hb dL_areFrames_519 (by decide) (fun _ => ?_) (fun c48 => (c48 (by decide)).elim)
        refine lv_iload hx hb dL_areFrames_555 (lv_at hl 1 rfl) ?_
        refine va_forget (fun q hq => hS.2.2 q hq) ?_
        exact W.zret (ty := .boolean) hx hb hr rfl (fun t ht _ => ⟨⟨_, (), rfl, rfl, trivial⟩, ⟨by rw [ht]; exact hS.1, fun q h1 _ => by rw [ht]; exact hS.2.1 q h1 (Nat.not_le.mpr h1)⟩⟩) (fun _ h => absurd h List.not_mem_nil) dL_areFrames_557
      · skip
        have hk : k < 30 := by omega
        have hsz := hI.2 k hk
        have hpk := hI.1.pick k hk
        have hhow := hI.1.how k hk
        have hr1 := pm_rl_le S k
        have hr2 := pm_lm_le S k
        have hset := hI.1.set
        have hrnd := hI.1.rnd
        have hchi := hI.1.chi k hk
        have hdu := hI.1.dull k hk
        have hsi := hI.1.size k hk
        rcases (show S 0 k = 0 ∨ S 0 k = 1 ∨ S 0 k = 2 ∨ S 0 k = 3 by omega) with h0 | h0 | h0 | h0
        · have hz := hsz.2 (by omega)
          have hrl := pq_rl0 (S := S) (k := k) (by omega)
          rcases pq_open hI hk h0 with ⟨hcc, hck, hw, ha, hd⟩ | ⟨hcc, hck, hw, ha, hd⟩ | ⟨hcc, hck, hn, htk, hw, ha, hd⟩ | ⟨hcc, hck, hn, htk, hw, ha, hd⟩ | ⟨hcc, hck, hn, htk, hq, hw, ha, hd⟩ | ⟨hcc, hck, hn, htk, hq, hw, ha, hd⟩
          · skip
            refine lv_aload_n hx hb dL_areFrames_30 rfl (lv_at hl 0 rfl) ?_
            refine lv_iload hx hb dL_areFrames_31 (lv_at hl 8 rfl) ?_
            refine lv_iconst (v := nI 0) hx hb dL_areFrames_33 (by decide) ?_
            have hPc : va_P D vwCl (pm_cl y L S Bs pi kn Gs sv U) H := pq_kept hP0 hS
            refine vp_callSi (W.runV (As := [.int (nI k), .int (nI 0)]) (rest := []) ⟨hx, hb, hml, hown, hts⟩ (k_X3_of l D y L S Bs pi kn Gs sv U Bs Gs (nI k) (nI 0) hI.1) (cwV 2 hts gL_areFrames_X3_of rfl rfl rfl hd_X3_of ⟨Nat.le_of_ble_eq_true rfl, Nat.le_of_ble_eq_true rfl⟩) ⟨pm_ro_blind, va_recv hK hPc (ci := 3) (q0 := 0) rfl rfl, pm_ro_pre hPc hK⟩ rfl rfl hl.1 rfl (lv_room (Nat.le_of_ble_eq_true rfl)) dL_areFrames_34 ⟨Nat.le_of_ble_eq_true rfl, Nat.le_of_ble_eq_true rfl⟩) (fun r49 h50 => ?_)
            obtain rfl : r49 = nI 0 := h50.trans ((pq_of0 (by omega)).trans (congrArg nI h0))
            refine lv_istore (lv' := [(9, .int (nI 0)), (0, .ref (L 0 0)), (1, .ref aw), (2, .int (nI (pm_pf S k))), (3, .int (nI (pm_rl S k))), (4, .int (nI (pm_lm S k))), (5, .int (nI (pm_bc S 1 k))), (6, .int (nI (pm_bc S 2 k))), (7, .int (nI (pm_bc S 0 k))), (8, .int (nI k))]) hx hb dL_areFrames_37 hl (by decide) rfl (fun ls hl => ?_)
            refine lv_aload_n hx hb dL_areFrames_39 rfl (lv_at hl 1 rfl) ?_
            refine lv_iload hx hb dL_areFrames_40 (lv_at hl 9 rfl) ?_
            refine lv_iconst (v := nI 1) hx hb dL_areFrames_42 (by decide) ?_
            have hPc : va_P D vwCl (pm_cl y L S Bs pi kn Gs sv U) H := pq_kept hP0 hS
            refine vp_callSi (W.runV (As := [.int (nI k), .int (nI 1)]) (rest := []) ⟨hx, hb, hml, hown, hts⟩ (k_X3_of l D y L S Bs pi kn Gs sv U Bs Gs (nI k) (nI 1) hI.1) (cwV 2 hts gL_areFrames_X3_of rfl rfl rfl hd_X3_of ⟨Nat.le_of_ble_eq_true rfl, Nat.le_of_ble_eq_true rfl⟩) ⟨pm_ro_blind, va_recv hK hPc (ci := 3) (q0 := 0) rfl rfl, pm_ro_pre hPc hK⟩ rfl rfl hl.1 rfl (lv_room (Nat.le_of_ble_eq_true rfl)) dL_areFrames_43 ⟨Nat.le_of_ble_eq_true rfl, Nat.le_of_ble_eq_true rfl⟩) (fun r51 h52 => ?_)
            obtain rfl : r51 = nI (pm_tk (S 4 k)) := h52.trans (pq_of1 (by omega))
            have := pm_tk8 (S 4 k)
            refine lv_istore (lv' := [(10, .int (nI (pm_tk (S 4 k)))), (9, .int (nI 0)), (0, .ref (L 0 0)), (1, .ref aw), (2, .int (nI (pm_pf S k))), (3, .int (nI (pm_rl S k))), (4, .int (nI (pm_lm S k))), (5, .int (nI (pm_bc S 1 k))), (6, .int (nI (pm_bc S 2 k))), (7, .int (nI (pm_bc S 0 k))), (8, .int (nI k))]) hx hb dL_areFrames_46 hl (by decide) rfl (fun ls hl => ?_)
            refine lv_aload_n hx hb dL_areFrames_48 rfl (lv_at hl 2 rfl) ?_
            refine lv_iload hx hb dL_areFrames_49 (lv_at hl 10 rfl) ?_
            refine lv_iconst (v := nI 2) hx hb dL_areFrames_51 (by decide) ?_
            have hPc : va_P D vwCl (pm_cl y L S Bs pi kn Gs sv U) H := pq_kept hP0 hS
            refine vp_callSi (W.runV (As := [.int (nI k), .int (nI 2)]) (rest := []) ⟨hx, hb, hml, hown, hts⟩ (k_X3_of l D y L S Bs pi kn Gs sv U Bs Gs (nI k) (nI 2) hI.1) (cwV 2 hts gL_areFrames_X3_of rfl rfl rfl hd_X3_of ⟨Nat.le_of_ble_eq_true rfl, Nat.le_of_ble_eq_true rfl⟩) ⟨pm_ro_blind, va_recv hK hPc (ci := 3) (q0 := 0) rfl rfl, pm_ro_pre hPc hK⟩ rfl rfl hl.1 rfl (lv_room (Nat.le_of_ble_eq_true rfl)) dL_areFrames_52 ⟨Nat.le_of_ble_eq_true rfl, Nat.le_of_ble_eq_true rfl⟩) (fun r53 h54 => ?_)
            obtain rfl : r53 = nI (pm_ck (S 4 k)) := h54.trans (pq_of2 (by omega))
            have := pm_ck8 (S 4 k)
            refine lv_istore (lv' := [(11, .int (nI (pm_ck (S 4 k)))), (10, .int (nI (pm_tk (S 4 k)))), (9, .int (nI 0)), (0, .ref (L 0 0)), (1, .ref aw), (2, .int (nI (pm_pf S k))), (3, .int (nI (pm_rl S k))), (4, .int (nI (pm_lm S k))), (5, .int (nI (pm_bc S 1 k))), (6, .int (nI (pm_bc S 2 k))), (7, .int (nI (pm_bc S 0 k))), (8, .int (nI k))]) hx hb dL_areFrames_55 hl (by decide) rfl (fun ls hl => ?_)
            refine lv_aload_n hx hb dL_areFrames_57 rfl (lv_at hl 3 rfl) ?_
            refine lv_iload hx hb dL_areFrames_58 (lv_at hl 11 rfl) ?_
            refine lv_iconst (v := nI 4) hx hb dL_areFrames_60 (by decide) ?_
            have hPc : va_P D vwCl (pm_cl y L S Bs pi kn Gs sv U) H := pq_kept hP0 hS
            refine vp_callSi (W.runV (As := [.int (nI k), .int (nI 4)]) (rest := []) ⟨hx, hb, hml, hown, hts⟩ (k_X3_of l D y L S Bs pi kn Gs sv U Bs Gs (nI k) (nI 4) hI.1) (cwV 2 hts gL_areFrames_X3_of rfl rfl rfl hd_X3_of ⟨Nat.le_of_ble_eq_true rfl, Nat.le_of_ble_eq_true rfl⟩) ⟨pm_ro_blind, va_recv hK hPc (ci := 3) (q0 := 0) rfl rfl, pm_ro_pre hPc hK⟩ rfl rfl hl.1 rfl (lv_room (Nat.le_of_ble_eq_true rfl)) dL_areFrames_61 ⟨Nat.le_of_ble_eq_true rfl, Nat.le_of_ble_eq_true rfl⟩) (fun r55 h56 => ?_)
            obtain rfl : r55 = nI (S 2 k) := h56.trans (pq_of4 (by omega))
            have := hI.1.size k (by omega)
            refine lv_istore (lv' := [(12, .int (nI (S 2 k))), (11, .int (nI (pm_ck (S 4 k)))), (10, .int (nI (pm_tk (S 4 k)))), (9, .int (nI 0)), (0, .ref (L 0 0)), (1, .ref aw), (2, .int (nI (pm_pf S k))), (3, .int (nI (pm_rl S k))), (4, .int (nI (pm_lm S k))), (5, .int (nI (pm_bc S 1 k))), (6, .int (nI (pm_bc S 2 k))), (7, .int (nI (pm_bc S 0 k))), (8, .int (nI k))]) hx hb dL_areFrames_64 hl (by decide) rfl (fun ls hl => ?_)
            refine lv_iload hx hb dL_areFrames_66 (lv_at hl 3 rfl) ?_
            refine lv_iconst (v := nI 1) hx hb dL_areFrames_68 (by decide) ?_
            refine lv_icmp_eq (tgt := 78) hx hb dL_areFrames_69 (by decide) (fun c57 => absurd c57 (by decide)) (fun _ => ?_)
            refine lv_iload hx hb dL_areFrames_72 (lv_at hl 3 rfl) ?_
            refine lv_iconst (v := nI 3) hx hb dL_areFrames_74 (by decide) ?_
            refine lv_icmp_ne (tgt := 82) hx hb dL_areFrames_75 (by decide) (fun _ => ?_) (fun c58 => absurd c58 (by decide))
            refine lv_iconst (v := nI 0) hx hb dL_areFrames_82 (by decide) ?_
            refine lv_istore (lv' := [(13, .int (nI 0)), (12, .int (nI (S 2 k))), (11, .int (nI (pm_ck (S 4 k)))), (10, .int (nI (pm_tk (S 4 k)))), (9, .int (nI 0)), (0, .ref (L 0 0)), (1, .ref aw), (2, .int (nI (pm_pf S k))), (3, .int (nI (pm_rl S k))), (4, .int (nI (pm_lm S k))), (5, .int (nI (pm_bc S 1 k))), (6, .int (nI (pm_bc S 2 k))), (7, .int (nI (pm_bc S 0 k))), (8, .int (nI k))]) hx hb dL_areFrames_83 hl (by decide) rfl (fun ls hl => ?_)
            refine lv_iload hx hb dL_areFrames_85 (lv_at hl 4 rfl) ?_
            refine lv_if_lt (tgt := 180) hx hb dL_areFrames_87 (by decide) (fun c59 => absurd c59 (by decide)) (fun _ => ?_)
            refine lv_iload hx hb dL_areFrames_90 (lv_at hl 4 rfl) ?_
            refine lv_iconst (v := nI 4) hx hb dL_areFrames_92 (by decide) ?_
            refine lv_icmp_ge (tgt := 180) hx hb dL_areFrames_93 (by decide) (fun c60 => absurd c60 (by decide)) (fun _ => ?_)
            refine lv_iload hx hb dL_areFrames_96 (lv_at hl 3 rfl) ?_
            refine lv_iload hx hb dL_areFrames_98 (lv_at hl 2 rfl) ?_
            refine lv_iand hx hb dL_areFrames_100 ?_
            refine lv_topi (fun x61 e62 => ?_)
            obtain rfl : x61 = nI 0 := e62.trans (pq_and (hI.1.okm k hk))
            refine lv_if_ne (tgt := 180) hx hb dL_areFrames_101 (by decide) (fun c63 => (c63 (by decide)).elim) (fun _ => ?_)
            refine lv_iload hx hb dL_areFrames_104 (lv_at hl 4 rfl) ?_
            refine lv_if_eq (tgt := 117) hx hb dL_areFrames_106 (by decide) (fun _ => ?_) (fun c64 => (c64 (by decide)).elim)
            refine lv_iload hx hb dL_areFrames_117 (lv_at hl 0 rfl) ?_
            refine lv_if_eq (tgt := 161) hx hb dL_areFrames_119 (by decide) (fun _ => ?_) (fun c65 => (c65 (by decide)).elim)
            refine lv_iload hx hb dL_areFrames_161 (lv_at hl 1 rfl) ?_
            refine kx_if_ne (tgt := 180) hx hb (by omega) dL_areFrames_163 (by decide) (fun c66 => by exfalso; omega) (fun c66 => ?_)
            refine lv_aload_n hx hb dL_areFrames_166 rfl (lv_at hl 5 rfl) ?_
            refine lv_iload hx hb dL_areFrames_167 (lv_at hl 13 rfl) ?_
            refine lv_iconst (v := nI 3) hx hb dL_areFrames_169 (by decide) ?_
            have hPc : va_P D vwCl (pm_cl y L S Bs pi kn Gs sv U) H := pq_kept hP0 hS
            refine vp_callSi (W.runV (As := [.int (nI k), .int (nI 3)]) (rest := []) ⟨hx, hb, hml, hown, hts⟩ (k_X3_of l D y L S Bs pi kn Gs sv U Bs Gs (nI k) (nI 3) hI.1) (cwV 2 hts gL_areFrames_X3_of rfl rfl rfl hd_X3_of ⟨Nat.le_of_ble_eq_true rfl, Nat.le_of_ble_eq_true rfl⟩) ⟨pm_ro_blind, va_recv hK hPc (ci := 3) (q0 := 0) rfl rfl, pm_ro_pre hPc hK⟩ rfl rfl hl.1 rfl (lv_room (Nat.le_of_ble_eq_true rfl)) dL_areFrames_170 ⟨Nat.le_of_ble_eq_true rfl, Nat.le_of_ble_eq_true rfl⟩) (fun r67 h68 => ?_)
            obtain rfl : r67 = nI (S 1 k) := h68.trans (pq_of3 (by omega))
            have := hI.1.dull k (by omega)
            have := hI.1.rnd
            refine kx_if_lt (tgt := 180) hx hb (by omega) dL_areFrames_173 (by decide) ?_
            refine lv_iconst (v := nI 1) hx hb dL_areFrames_176 (by decide) ?_
            refine lv_goto (tgt := 181) hx hb dL_areFrames_177 (by decide) ?_
            refine lv_istore (lv' := [(14, .int (nI 1)), (13, .int (nI 0)), (12, .int (nI (S 2 k))), (11, .int (nI (pm_ck (S 4 k)))), (10, .int (nI (pm_tk (S 4 k)))), (9, .int (nI 0)), (0, .ref (L 0 0)), (1, .ref aw), (2, .int (nI (pm_pf S k))), (3, .int (nI (pm_rl S k))), (4, .int (nI (pm_lm S k))), (5, .int (nI (pm_bc S 1 k))), (6, .int (nI (pm_bc S 2 k))), (7, .int (nI (pm_bc S 0 k))), (8, .int (nI k))]) hx hb dL_areFrames_181 hl (by decide) rfl (fun ls hl => ?_)
            refine lv_iload hx hb dL_areFrames_183 (lv_at hl 5 rfl) ?_
            refine lv_if_eq (tgt := 192) hx hb dL_areFrames_185 (by decide) (fun _ => ?_) (fun c69 => (c69 (by decide)).elim)
            refine lv_iload hx hb dL_areFrames_192 (lv_at hl 3 rfl) ?_
            refine kx_if_eq (tgt := 201) hx hb (by omega) dL_areFrames_194 (by decide) (fun c70 => by exfalso; omega) (fun c70 => ?_)
            refine lv_iconst (v := nI 2) hx hb dL_areFrames_197 (by decide) ?_
            refine lv_goto (tgt := 220) hx hb dL_areFrames_198 (by decide) ?_
            refine lv_istore (lv' := [(15, .int (nI 2)), (14, .int (nI 1)), (13, .int (nI 0)), (12, .int (nI (S 2 k))), (11, .int (nI (pm_ck (S 4 k)))), (10, .int (nI (pm_tk (S 4 k)))), (9, .int (nI 0)), (0, .ref (L 0 0)), (1, .ref aw), (2, .int (nI (pm_pf S k))), (3, .int (nI (pm_rl S k))), (4, .int (nI (pm_lm S k))), (5, .int (nI (pm_bc S 1 k))), (6, .int (nI (pm_bc S 2 k))), (7, .int (nI (pm_bc S 0 k))), (8, .int (nI k))]) hx hb dL_areFrames_220 hl (by decide) rfl (fun ls hl => ?_)
            refine lv_iload hx hb dL_areFrames_222 (lv_at hl 1 rfl) ?_
            refine lv_if_eq (tgt := 252) hx hb dL_areFrames_224 (by decide) (fun c71 => absurd c71 (by decide)) (fun _ => ?_)
            refine lv_aload_n hx hb dL_areFrames_227 rfl (lv_at hl 7 rfl) ?_
            refine lv_iload hx hb dL_areFrames_228 (lv_at hl 15 rfl) ?_
            have hPc : va_P D vwCl (pm_cl y L S Bs pi kn Gs sv U) H := pq_kept hP0 hS
            refine vp_callSi (W.runV (As := [.int (nI k)]) (rest := []) ⟨hx, hb, hml, hown, hts⟩ (k_X3_why l D y L S Bs pi kn Gs sv U Bs Gs (nI k) hI.1) (cwV 1 hts gL_areFrames_X3_why rfl rfl rfl hd_X3_why ⟨Nat.le_of_ble_eq_true rfl, Nat.le_of_ble_eq_true rfl⟩) ⟨pm_ro_blind, va_recv hK hPc (ci := 3) (q0 := 0) rfl rfl, pm_ro_pre hPc hK⟩ rfl rfl hl.1 rfl (lv_room (Nat.le_of_ble_eq_true rfl)) dL_areFrames_230 ⟨Nat.le_of_ble_eq_true rfl, Nat.le_of_ble_eq_true rfl⟩) (fun r72 h73 => ?_)
            obtain rfl : r72 = nI 2 := h73.trans (hw)
            refine lv_iload hx hb dL_areFrames_233 (lv_at hl 0 rfl) ?_
            refine lv_icmp_ne (tgt := 252) hx hb dL_areFrames_235 (by decide) (fun c74 => (c74 (by decide)).elim) (fun _ => ?_)
            refine lv_iload hx hb dL_areFrames_238 (lv_at hl 6 rfl) ?_
            refine lv_if_eq (tgt := 254) hx hb dL_areFrames_240 (by decide) (fun _ => ?_) (fun c75 => (c75 (by decide)).elim)
            refine lv_aload_n hx hb dL_areFrames_254 rfl (lv_at hl 8 rfl) ?_
            refine lv_iload hx hb dL_areFrames_255 (lv_at hl 6 rfl) ?_
            refine lv_dup2_11 hx hb dL_areFrames_257 rfl rfl ?_
            refine kx_iald (v := nI (pm_hm S 0 k)) hx hb hK hP 0 0 rfl rfl (by decide) (by decide) rfl dL_areFrames_258 ?_
            refine lv_iconst (v := nI 1) hx hb dL_areFrames_259 (by decide) ?_
            refine kx_iadd hx hb dL_areFrames_260 ?_
            refine kx_iast (ws' := [(aw, .inl (y 0, 4, .inl (pm_vn (fun j => pm_hm S j (k + 1)))))]) hx hb hK hP hD hS 0 0 rfl rfl (by decide) (by decide) (pq_how h0) rfl dL_areFrames_261 (fun H locs hP hD hS => ?_)
            refine lv_iload_n hx hb dL_areFrames_262 rfl (lv_at hl 9 rfl) ?_
            refine lv_iload hx hb dL_areFrames_263 (lv_at hl 6 rfl) ?_
            refine lv_iconst (v := nI 1) hx hb dL_areFrames_265 (by decide) ?_
            refine lv_icmp_ne (tgt := 280) hx hb dL_areFrames_266 (by decide) (fun _ => ?_) (fun c76 => absurd c76 (by decide))
            refine lv_iconst (v := nI 0) hx hb dL_areFrames_280 (by decide) ?_
            refine kx_iadd hx hb dL_areFrames_281 ?_
            refine lv_istore_n (lv' := [(2, .int (nI ((pm_pf S k) + 0))), (15, .int (nI 2)), (14, .int (nI 1)), (13, .int (nI 0)), (12, .int (nI (S 2 k))), (11, .int (nI (pm_ck (S 4 k)))), (10, .int (nI (pm_tk (S 4 k)))), (9, .int (nI 0)), (0, .ref (L 0 0)), (1, .ref aw), (3, .int (nI (pm_rl S k))), (4, .int (nI (pm_lm S k))), (5, .int (nI (pm_bc S 1 k))), (6, .int (nI (pm_bc S 2 k))), (7, .int (nI (pm_bc S 0 k))), (8, .int (nI k))]) hx hb dL_areFrames_282 rfl hl (by decide) rfl (fun ls hl => ?_)
            refine lv_iload hx hb dL_areFrames_283 (lv_at hl 3 rfl) ?_
            refine lv_if_ne (tgt := 292) hx hb dL_areFrames_285 (by decide) (fun c77 => (c77 (by decide)).elim) (fun _ => ?_)
            refine lv_iconst (v := nI 0) hx hb dL_areFrames_288 (by decide) ?_
            refine lv_goto (tgt := 307) hx hb dL_areFrames_289 (by decide) ?_
            refine lv_istore_n (lv' := [(3, .int (nI 0)), (2, .int (nI ((pm_pf S k) + 0))), (15, .int (nI 2)), (14, .int (nI 1)), (13, .int (nI 0)), (12, .int (nI (S 2 k))), (11, .int (nI (pm_ck (S 4 k)))), (10, .int (nI (pm_tk (S 4 k)))), (9, .int (nI 0)), (0, .ref (L 0 0)), (1, .ref aw), (4, .int (nI (pm_lm S k))), (5, .int (nI (pm_bc S 1 k))), (6, .int (nI (pm_bc S 2 k))), (7, .int (nI (pm_bc S 0 k))), (8, .int (nI k))]) hx hb dL_areFrames_307 rfl hl (by decide) rfl (fun ls hl => ?_)
            refine lv_iload_n hx hb dL_areFrames_308 rfl (lv_at hl 0 rfl) ?_
            refine lv_iload hx hb dL_areFrames_309 (lv_at hl 11 rfl) ?_
            refine kx_icmp_le (tgt := 318) hx hb (by decide) (by omega) dL_areFrames_311 (by decide) (fun c78 => ?_) (fun c78 => by exfalso; omega)
            refine lv_iload hx hb dL_areFrames_318 (lv_at hl 11 rfl) ?_
            refine lv_istore (lv' := [(4, .int (nI (pm_lm S k))), (3, .int (nI 0)), (2, .int (nI ((pm_pf S k) + 0))), (15, .int (nI 2)), (14, .int (nI 1)), (13, .int (nI 0)), (12, .int (nI (S 2 k))), (11, .int (nI (pm_ck (S 4 k)))), (10, .int (nI (pm_tk (S 4 k)))), (9, .int (nI 0)), (0, .ref (L 0 0)), (1, .ref aw), (5, .int (nI (pm_bc S 1 k))), (6, .int (nI (pm_bc S 2 k))), (7, .int (nI (pm_bc S 0 k))), (8, .int (nI k))]) hx hb dL_areFrames_320 hl (by decide) rfl (fun ls hl => ?_)
            refine lv_iload hx hb dL_areFrames_322 (lv_at hl 8 rfl) ?_
            refine lv_iload hx hb dL_areFrames_324 (lv_at hl 7 rfl) ?_
            refine kx_iadd hx hb dL_areFrames_326 ?_
            refine kx_if_ne (tgt := 334) hx hb (by omega) dL_areFrames_327 (by decide) (fun c79 => ?_) (fun c79 => by exfalso; omega)
            refine lv_iconst (v := nI 0) hx hb dL_areFrames_334 (by decide) ?_
            refine lv_istore (lv' := [(16, .int (nI 0)), (4, .int (nI (pm_lm S k))), (3, .int (nI 0)), (2, .int (nI ((pm_pf S k) + 0))), (15, .int (nI 2)), (14, .int (nI 1)), (13, .int (nI 0)), (12, .int (nI (S 2 k))), (11, .int (nI (pm_ck (S 4 k)))), (10, .int (nI (pm_tk (S 4 k)))), (9, .int (nI 0)), (0, .ref (L 0 0)), (1, .ref aw), (5, .int (nI (pm_bc S 1 k))), (6, .int (nI (pm_bc S 2 k))), (7, .int (nI (pm_bc S 0 k))), (8, .int (nI k))]) hx hb dL_areFrames_335 hl (by decide) rfl (fun ls hl => ?_)
            refine lv_iload hx hb dL_areFrames_337 (lv_at hl 10 rfl) ?_
            refine lv_if_ne (tgt := 393) hx hb dL_areFrames_339 (by decide) (fun c80 => (c80 (by decide)).elim) (fun _ => ?_)
            refine lv_iload hx hb dL_areFrames_342 (lv_at hl 8 rfl) ?_
            refine vp_callSi (W.runS (As := [.int (nI (pm_ck (S 4 k)))]) (rest := []) ⟨hx, hb, hml, hown, hts⟩ (k_L_ones l (pm_ck (S 4 k)) (by omega)) (va_cwS 1 hts gL_areFrames_L_ones rfl rfl rfl hd_L_ones ⟨Nat.le_of_ble_eq_true rfl, Nat.le_of_ble_eq_true rfl⟩) ⟨pm_no_blind, pm_no_pre⟩ rfl rfl hl.1 rfl (lv_room (Nat.le_of_ble_eq_true rfl)) dL_areFrames_344 ⟨Nat.le_of_ble_eq_true rfl, Nat.le_of_ble_eq_true rfl⟩) (fun r81 h82 => ?_)
            obtain rfl : r81 = nI (pm_cc (S 4 k)) := h82
            have : pm_cc (S 4 k) < 4 := pm_pc4 _
            refine lv_iconst (v := nI 1) hx hb dL_areFrames_347 (by decide) ?_
            refine kx_icmp_gt (tgt := 389) hx hb (by omega) (by decide) dL_areFrames_348 (by decide) (fun c83 => ?_) (fun c83 => by exfalso; omega)
            refine lv_iconst (v := nI 1) hx hb dL_areFrames_389 (by decide) ?_
            refine lv_goto (tgt := 394) hx hb dL_areFrames_390 (by decide) ?_
            refine lv_istore (lv' := [(17, .int (nI 1)), (16, .int (nI 0)), (4, .int (nI (pm_lm S k))), (3, .int (nI 0)), (2, .int (nI ((pm_pf S k) + 0))), (15, .int (nI 2)), (14, .int (nI 1)), (13, .int (nI 0)), (12, .int (nI (S 2 k))), (11, .int (nI (pm_ck (S 4 k)))), (10, .int (nI (pm_tk (S 4 k)))), (9, .int (nI 0)), (0, .ref (L 0 0)), (1, .ref aw), (5, .int (nI (pm_bc S 1 k))), (6, .int (nI (pm_bc S 2 k))), (7, .int (nI (pm_bc S 0 k))), (8, .int (nI k))]) hx hb dL_areFrames_394 hl (by decide) rfl (fun ls hl => ?_)
            refine lv_iload hx hb dL_areFrames_396 (lv_at hl 14 rfl) ?_
            refine lv_iload hx hb dL_areFrames_398 (lv_at hl 5 rfl) ?_
            refine lv_if_ne (tgt := 407) hx hb dL_areFrames_400 (by decide) (fun _ => ?_) (fun c84 => absurd c84 (by decide))
            refine lv_iconst (v := nI 0) hx hb dL_areFrames_407 (by decide) ?_
            refine kx_iadd hx hb dL_areFrames_408 ?_
            refine lv_istore (lv' := [(5, .int (nI ((pm_bc S 1 k) + 0))), (17, .int (nI 1)), (16, .int (nI 0)), (4, .int (nI (pm_lm S k))), (3, .int (nI 0)), (2, .int (nI ((pm_pf S k) + 0))), (15, .int (nI 2)), (14, .int (nI 1)), (13, .int (nI 0)), (12, .int (nI (S 2 k))), (11, .int (nI (pm_ck (S 4 k)))), (10, .int (nI (pm_tk (S 4 k)))), (9, .int (nI 0)), (0, .ref (L 0 0)), (1, .ref aw), (6, .int (nI (pm_bc S 2 k))), (7, .int (nI (pm_bc S 0 k))), (8, .int (nI k))]) hx hb dL_areFrames_409 hl (by decide) rfl (fun ls hl => ?_)
            refine lv_iload hx hb dL_areFrames_411 (lv_at hl 15 rfl) ?_
            refine lv_iload hx hb dL_areFrames_413 (lv_at hl 1 rfl) ?_
            refine lv_if_eq (tgt := 422) hx hb dL_areFrames_415 (by decide) (fun c85 => absurd c85 (by decide)) (fun _ => ?_)
            refine lv_iconst (v := nI 1) hx hb dL_areFrames_418 (by decide) ?_
            refine lv_goto (tgt := 423) hx hb dL_areFrames_419 (by decide) ?_
            refine kx_iadd hx hb dL_areFrames_423 ?_
            refine lv_istore (lv' := [(6, .int (nI ((pm_bc S 2 k) + 1))), (5, .int (nI ((pm_bc S 1 k) + 0))), (17, .int (nI 1)), (16, .int (nI 0)), (4, .int (nI (pm_lm S k))), (3, .int (nI 0)), (2, .int (nI ((pm_pf S k) + 0))), (15, .int (nI 2)), (14, .int (nI 1)), (13, .int (nI 0)), (12, .int (nI (S 2 k))), (11, .int (nI (pm_ck (S 4 k)))), (10, .int (nI (pm_tk (S 4 k)))), (9, .int (nI 0)), (0, .ref (L 0 0)), (1, .ref aw), (7, .int (nI (pm_bc S 0 k))), (8, .int (nI k))]) hx hb dL_areFrames_424 hl (by decide) rfl (fun ls hl => ?_)
            refine lv_iload hx hb dL_areFrames_426 (lv_at hl 16 rfl) ?_
            refine lv_iload hx hb dL_areFrames_428 (lv_at hl 13 rfl) ?_
            refine lv_if_ne (tgt := 447) hx hb dL_areFrames_430 (by decide) (fun c86 => (c86 (by decide)).elim) (fun _ => ?_)
            refine lv_iload hx hb dL_areFrames_433 (lv_at hl 7 rfl) ?_
            refine lv_if_eq (tgt := 447) hx hb dL_areFrames_435 (by decide) (fun c87 => absurd c87 (by decide)) (fun _ => ?_)
            refine lv_iload hx hb dL_areFrames_438 (lv_at hl 2 rfl) ?_
            refine lv_if_ne (tgt := 447) hx hb dL_areFrames_440 (by decide) (fun _ => ?_) (fun c88 => absurd c88 (by decide))
            refine lv_iconst (v := nI 0) hx hb dL_areFrames_447 (by decide) ?_
            refine kx_iadd hx hb dL_areFrames_448 ?_
            refine lv_istore (lv' := [(7, .int (nI ((pm_bc S 0 k) + 0))), (6, .int (nI ((pm_bc S 2 k) + 1))), (5, .int (nI ((pm_bc S 1 k) + 0))), (17, .int (nI 1)), (16, .int (nI 0)), (4, .int (nI (pm_lm S k))), (3, .int (nI 0)), (2, .int (nI ((pm_pf S k) + 0))), (15, .int (nI 2)), (14, .int (nI 1)), (13, .int (nI 0)), (12, .int (nI (S 2 k))), (11, .int (nI (pm_ck (S 4 k)))), (10, .int (nI (pm_tk (S 4 k)))), (9, .int (nI 0)), (0, .ref (L 0 0)), (1, .ref aw), (8, .int (nI k))]) hx hb dL_areFrames_449 hl (by decide) rfl (fun ls hl => ?_)
            refine kx_iinc (a := k) (lv' := [(8, .int (nI (k + 1))), (7, .int (nI ((pm_bc S 0 k) + 0))), (6, .int (nI ((pm_bc S 2 k) + 1))), (5, .int (nI ((pm_bc S 1 k) + 0))), (17, .int (nI 1)), (16, .int (nI 0)), (4, .int (nI (pm_lm S k))), (3, .int (nI 0)), (2, .int (nI ((pm_pf S k) + 0))), (15, .int (nI 2)), (14, .int (nI 1)), (13, .int (nI 0)), (12, .int (nI (S 2 k))), (11, .int (nI (pm_ck (S 4 k)))), (10, .int (nI (pm_tk (S 4 k)))), (9, .int (nI 0)), (0, .ref (L 0 0)), (1, .ref aw)]) hx hb dL_areFrames_451 hl (k := 17) rfl (by decide) rfl (fun ls hl => ?_)
            refine lv_goto (tgt := 23) hx hb dL_areFrames_454 (by decide) ?_
            have q89 : (nI (pm_pf S (k + 1)) : Int32) = nI ((pm_pf S k) + 0) := (congrArg nI (pm_pf_n (by omega)))
            have q90 : (nI (pm_rl S (k + 1)) : Int32) = nI 0 := (congrArg nI hrl)
            have q91 : (nI (pm_lm S (k + 1)) : Int32) = nI (pm_lm S k) := (congrArg nI (by rw [pq_lm hrl]; split <;> omega))
            have q92 : (nI (pm_bc S 1 (k + 1)) : Int32) = nI ((pm_bc S 1 k) + 0) := (congrArg nI (pq_bcs h0 ha 1))
            have q93 : (nI (pm_bc S 2 (k + 1)) : Int32) = nI ((pm_bc S 2 k) + 1) := (congrArg nI (pq_bcs h0 ha 2))
            have q94 : (nI (pm_bc S 0 (k + 1)) : Int32) = nI ((pm_bc S 0 k) + 0) := (congrArg nI (pq_bcs h0 ha 0))
            exact ih3 (k + 1) ls H locs hP hD hS (by omega) (by omega) (by rw [q89, q90, q91, q92, q93, q94]; exact lv_sub hl [16, 17, 8, 7, 6, 3, 2, 1, 0] rfl) 
          · skip
            refine lv_aload_n hx hb dL_areFrames_30 rfl (lv_at hl 0 rfl) ?_
            refine lv_iload hx hb dL_areFrames_31 (lv_at hl 8 rfl) ?_
            refine lv_iconst (v := nI 0) hx hb dL_areFrames_33 (by decide) ?_
            have hPc : va_P D vwCl (pm_cl y L S Bs pi kn Gs sv U) H := pq_kept hP0 hS
            refine vp_callSi (W.runV (As := [.int (nI k), .int (nI 0)]) (rest := []) ⟨hx, hb, hml, hown, hts⟩ (k_X3_of l D y L S Bs pi kn Gs sv U Bs Gs (nI k) (nI 0) hI.1) (cwV 2 hts gL_areFrames_X3_of rfl rfl rfl hd_X3_of ⟨Nat.le_of_ble_eq_true rfl, Nat.le_of_ble_eq_true rfl⟩) ⟨pm_ro_blind, va_recv hK hPc (ci := 3) (q0 := 0) rfl rfl, pm_ro_pre hPc hK⟩ rfl rfl hl.1 rfl (lv_room (Nat.le_of_ble_eq_true rfl)) dL_areFrames_34 ⟨Nat.le_of_ble_eq_true rfl, Nat.le_of_ble_eq_true rfl⟩) (fun r95 h96 => ?_)
            obtain rfl : r95 = nI 0 := h96.trans ((pq_of0 (by omega)).trans (congrArg nI h0))
            refine lv_istore (lv' := [(9, .int (nI 0)), (0, .ref (L 0 0)), (1, .ref aw), (2, .int (nI (pm_pf S k))), (3, .int (nI (pm_rl S k))), (4, .int (nI (pm_lm S k))), (5, .int (nI (pm_bc S 1 k))), (6, .int (nI (pm_bc S 2 k))), (7, .int (nI (pm_bc S 0 k))), (8, .int (nI k))]) hx hb dL_areFrames_37 hl (by decide) rfl (fun ls hl => ?_)
            refine lv_aload_n hx hb dL_areFrames_39 rfl (lv_at hl 1 rfl) ?_
            refine lv_iload hx hb dL_areFrames_40 (lv_at hl 9 rfl) ?_
            refine lv_iconst (v := nI 1) hx hb dL_areFrames_42 (by decide) ?_
            have hPc : va_P D vwCl (pm_cl y L S Bs pi kn Gs sv U) H := pq_kept hP0 hS
            refine vp_callSi (W.runV (As := [.int (nI k), .int (nI 1)]) (rest := []) ⟨hx, hb, hml, hown, hts⟩ (k_X3_of l D y L S Bs pi kn Gs sv U Bs Gs (nI k) (nI 1) hI.1) (cwV 2 hts gL_areFrames_X3_of rfl rfl rfl hd_X3_of ⟨Nat.le_of_ble_eq_true rfl, Nat.le_of_ble_eq_true rfl⟩) ⟨pm_ro_blind, va_recv hK hPc (ci := 3) (q0 := 0) rfl rfl, pm_ro_pre hPc hK⟩ rfl rfl hl.1 rfl (lv_room (Nat.le_of_ble_eq_true rfl)) dL_areFrames_43 ⟨Nat.le_of_ble_eq_true rfl, Nat.le_of_ble_eq_true rfl⟩) (fun r97 h98 => ?_)
            obtain rfl : r97 = nI (pm_tk (S 4 k)) := h98.trans (pq_of1 (by omega))
            have := pm_tk8 (S 4 k)
            refine lv_istore (lv' := [(10, .int (nI (pm_tk (S 4 k)))), (9, .int (nI 0)), (0, .ref (L 0 0)), (1, .ref aw), (2, .int (nI (pm_pf S k))), (3, .int (nI (pm_rl S k))), (4, .int (nI (pm_lm S k))), (5, .int (nI (pm_bc S 1 k))), (6, .int (nI (pm_bc S 2 k))), (7, .int (nI (pm_bc S 0 k))), (8, .int (nI k))]) hx hb dL_areFrames_46 hl (by decide) rfl (fun ls hl => ?_)
            refine lv_aload_n hx hb dL_areFrames_48 rfl (lv_at hl 2 rfl) ?_
            refine lv_iload hx hb dL_areFrames_49 (lv_at hl 10 rfl) ?_
            refine lv_iconst (v := nI 2) hx hb dL_areFrames_51 (by decide) ?_
            have hPc : va_P D vwCl (pm_cl y L S Bs pi kn Gs sv U) H := pq_kept hP0 hS
            refine vp_callSi (W.runV (As := [.int (nI k), .int (nI 2)]) (rest := []) ⟨hx, hb, hml, hown, hts⟩ (k_X3_of l D y L S Bs pi kn Gs sv U Bs Gs (nI k) (nI 2) hI.1) (cwV 2 hts gL_areFrames_X3_of rfl rfl rfl hd_X3_of ⟨Nat.le_of_ble_eq_true rfl, Nat.le_of_ble_eq_true rfl⟩) ⟨pm_ro_blind, va_recv hK hPc (ci := 3) (q0 := 0) rfl rfl, pm_ro_pre hPc hK⟩ rfl rfl hl.1 rfl (lv_room (Nat.le_of_ble_eq_true rfl)) dL_areFrames_52 ⟨Nat.le_of_ble_eq_true rfl, Nat.le_of_ble_eq_true rfl⟩) (fun r99 h100 => ?_)
            obtain rfl : r99 = nI (pm_ck (S 4 k)) := h100.trans (pq_of2 (by omega))
            have := pm_ck8 (S 4 k)
            refine lv_istore (lv' := [(11, .int (nI (pm_ck (S 4 k)))), (10, .int (nI (pm_tk (S 4 k)))), (9, .int (nI 0)), (0, .ref (L 0 0)), (1, .ref aw), (2, .int (nI (pm_pf S k))), (3, .int (nI (pm_rl S k))), (4, .int (nI (pm_lm S k))), (5, .int (nI (pm_bc S 1 k))), (6, .int (nI (pm_bc S 2 k))), (7, .int (nI (pm_bc S 0 k))), (8, .int (nI k))]) hx hb dL_areFrames_55 hl (by decide) rfl (fun ls hl => ?_)
            refine lv_aload_n hx hb dL_areFrames_57 rfl (lv_at hl 3 rfl) ?_
            refine lv_iload hx hb dL_areFrames_58 (lv_at hl 11 rfl) ?_
            refine lv_iconst (v := nI 4) hx hb dL_areFrames_60 (by decide) ?_
            have hPc : va_P D vwCl (pm_cl y L S Bs pi kn Gs sv U) H := pq_kept hP0 hS
            refine vp_callSi (W.runV (As := [.int (nI k), .int (nI 4)]) (rest := []) ⟨hx, hb, hml, hown, hts⟩ (k_X3_of l D y L S Bs pi kn Gs sv U Bs Gs (nI k) (nI 4) hI.1) (cwV 2 hts gL_areFrames_X3_of rfl rfl rfl hd_X3_of ⟨Nat.le_of_ble_eq_true rfl, Nat.le_of_ble_eq_true rfl⟩) ⟨pm_ro_blind, va_recv hK hPc (ci := 3) (q0 := 0) rfl rfl, pm_ro_pre hPc hK⟩ rfl rfl hl.1 rfl (lv_room (Nat.le_of_ble_eq_true rfl)) dL_areFrames_61 ⟨Nat.le_of_ble_eq_true rfl, Nat.le_of_ble_eq_true rfl⟩) (fun r101 h102 => ?_)
            obtain rfl : r101 = nI (S 2 k) := h102.trans (pq_of4 (by omega))
            have := hI.1.size k (by omega)
            refine lv_istore (lv' := [(12, .int (nI (S 2 k))), (11, .int (nI (pm_ck (S 4 k)))), (10, .int (nI (pm_tk (S 4 k)))), (9, .int (nI 0)), (0, .ref (L 0 0)), (1, .ref aw), (2, .int (nI (pm_pf S k))), (3, .int (nI (pm_rl S k))), (4, .int (nI (pm_lm S k))), (5, .int (nI (pm_bc S 1 k))), (6, .int (nI (pm_bc S 2 k))), (7, .int (nI (pm_bc S 0 k))), (8, .int (nI k))]) hx hb dL_areFrames_64 hl (by decide) rfl (fun ls hl => ?_)
            refine lv_iload hx hb dL_areFrames_66 (lv_at hl 3 rfl) ?_
            refine lv_iconst (v := nI 1) hx hb dL_areFrames_68 (by decide) ?_
            refine lv_icmp_eq (tgt := 78) hx hb dL_areFrames_69 (by decide) (fun c103 => absurd c103 (by decide)) (fun _ => ?_)
            refine lv_iload hx hb dL_areFrames_72 (lv_at hl 3 rfl) ?_
            refine lv_iconst (v := nI 3) hx hb dL_areFrames_74 (by decide) ?_
            refine lv_icmp_ne (tgt := 82) hx hb dL_areFrames_75 (by decide) (fun _ => ?_) (fun c104 => absurd c104 (by decide))
            refine lv_iconst (v := nI 0) hx hb dL_areFrames_82 (by decide) ?_
            refine lv_istore (lv' := [(13, .int (nI 0)), (12, .int (nI (S 2 k))), (11, .int (nI (pm_ck (S 4 k)))), (10, .int (nI (pm_tk (S 4 k)))), (9, .int (nI 0)), (0, .ref (L 0 0)), (1, .ref aw), (2, .int (nI (pm_pf S k))), (3, .int (nI (pm_rl S k))), (4, .int (nI (pm_lm S k))), (5, .int (nI (pm_bc S 1 k))), (6, .int (nI (pm_bc S 2 k))), (7, .int (nI (pm_bc S 0 k))), (8, .int (nI k))]) hx hb dL_areFrames_83 hl (by decide) rfl (fun ls hl => ?_)
            refine lv_iload hx hb dL_areFrames_85 (lv_at hl 4 rfl) ?_
            refine lv_if_lt (tgt := 180) hx hb dL_areFrames_87 (by decide) (fun c105 => absurd c105 (by decide)) (fun _ => ?_)
            refine lv_iload hx hb dL_areFrames_90 (lv_at hl 4 rfl) ?_
            refine lv_iconst (v := nI 4) hx hb dL_areFrames_92 (by decide) ?_
            refine lv_icmp_ge (tgt := 180) hx hb dL_areFrames_93 (by decide) (fun c106 => absurd c106 (by decide)) (fun _ => ?_)
            refine lv_iload hx hb dL_areFrames_96 (lv_at hl 3 rfl) ?_
            refine lv_iload hx hb dL_areFrames_98 (lv_at hl 2 rfl) ?_
            refine lv_iand hx hb dL_areFrames_100 ?_
            refine lv_topi (fun x107 e108 => ?_)
            obtain rfl : x107 = nI 0 := e108.trans (pq_and (hI.1.okm k hk))
            refine lv_if_ne (tgt := 180) hx hb dL_areFrames_101 (by decide) (fun c109 => (c109 (by decide)).elim) (fun _ => ?_)
            refine lv_iload hx hb dL_areFrames_104 (lv_at hl 4 rfl) ?_
            refine lv_if_eq (tgt := 117) hx hb dL_areFrames_106 (by decide) (fun _ => ?_) (fun c110 => (c110 (by decide)).elim)
            refine lv_iload hx hb dL_areFrames_117 (lv_at hl 0 rfl) ?_
            refine lv_if_eq (tgt := 161) hx hb dL_areFrames_119 (by decide) (fun _ => ?_) (fun c111 => (c111 (by decide)).elim)
            refine lv_iload hx hb dL_areFrames_161 (lv_at hl 1 rfl) ?_
            refine kx_if_ne (tgt := 180) hx hb (by omega) dL_areFrames_163 (by decide) (fun c112 => by exfalso; omega) (fun c112 => ?_)
            refine lv_aload_n hx hb dL_areFrames_166 rfl (lv_at hl 5 rfl) ?_
            refine lv_iload hx hb dL_areFrames_167 (lv_at hl 13 rfl) ?_
            refine lv_iconst (v := nI 3) hx hb dL_areFrames_169 (by decide) ?_
            have hPc : va_P D vwCl (pm_cl y L S Bs pi kn Gs sv U) H := pq_kept hP0 hS
            refine vp_callSi (W.runV (As := [.int (nI k), .int (nI 3)]) (rest := []) ⟨hx, hb, hml, hown, hts⟩ (k_X3_of l D y L S Bs pi kn Gs sv U Bs Gs (nI k) (nI 3) hI.1) (cwV 2 hts gL_areFrames_X3_of rfl rfl rfl hd_X3_of ⟨Nat.le_of_ble_eq_true rfl, Nat.le_of_ble_eq_true rfl⟩) ⟨pm_ro_blind, va_recv hK hPc (ci := 3) (q0 := 0) rfl rfl, pm_ro_pre hPc hK⟩ rfl rfl hl.1 rfl (lv_room (Nat.le_of_ble_eq_true rfl)) dL_areFrames_170 ⟨Nat.le_of_ble_eq_true rfl, Nat.le_of_ble_eq_true rfl⟩) (fun r113 h114 => ?_)
            obtain rfl : r113 = nI (S 1 k) := h114.trans (pq_of3 (by omega))
            have := hI.1.dull k (by omega)
            have := hI.1.rnd
            refine kx_if_lt (tgt := 180) hx hb (by omega) dL_areFrames_173 (by decide) ?_
            refine lv_iconst (v := nI 1) hx hb dL_areFrames_176 (by decide) ?_
            refine lv_goto (tgt := 181) hx hb dL_areFrames_177 (by decide) ?_
            refine lv_istore (lv' := [(14, .int (nI 1)), (13, .int (nI 0)), (12, .int (nI (S 2 k))), (11, .int (nI (pm_ck (S 4 k)))), (10, .int (nI (pm_tk (S 4 k)))), (9, .int (nI 0)), (0, .ref (L 0 0)), (1, .ref aw), (2, .int (nI (pm_pf S k))), (3, .int (nI (pm_rl S k))), (4, .int (nI (pm_lm S k))), (5, .int (nI (pm_bc S 1 k))), (6, .int (nI (pm_bc S 2 k))), (7, .int (nI (pm_bc S 0 k))), (8, .int (nI k))]) hx hb dL_areFrames_181 hl (by decide) rfl (fun ls hl => ?_)
            refine lv_iload hx hb dL_areFrames_183 (lv_at hl 5 rfl) ?_
            refine lv_if_eq (tgt := 192) hx hb dL_areFrames_185 (by decide) (fun _ => ?_) (fun c115 => (c115 (by decide)).elim)
            refine lv_iload hx hb dL_areFrames_192 (lv_at hl 3 rfl) ?_
            refine kx_if_eq (tgt := 201) hx hb (by omega) dL_areFrames_194 (by decide) (fun c116 => by exfalso; omega) (fun c116 => ?_)
            refine lv_iconst (v := nI 2) hx hb dL_areFrames_197 (by decide) ?_
            refine lv_goto (tgt := 220) hx hb dL_areFrames_198 (by decide) ?_
            refine lv_istore (lv' := [(15, .int (nI 2)), (14, .int (nI 1)), (13, .int (nI 0)), (12, .int (nI (S 2 k))), (11, .int (nI (pm_ck (S 4 k)))), (10, .int (nI (pm_tk (S 4 k)))), (9, .int (nI 0)), (0, .ref (L 0 0)), (1, .ref aw), (2, .int (nI (pm_pf S k))), (3, .int (nI (pm_rl S k))), (4, .int (nI (pm_lm S k))), (5, .int (nI (pm_bc S 1 k))), (6, .int (nI (pm_bc S 2 k))), (7, .int (nI (pm_bc S 0 k))), (8, .int (nI k))]) hx hb dL_areFrames_220 hl (by decide) rfl (fun ls hl => ?_)
            refine lv_iload hx hb dL_areFrames_222 (lv_at hl 1 rfl) ?_
            refine lv_if_eq (tgt := 252) hx hb dL_areFrames_224 (by decide) (fun c117 => absurd c117 (by decide)) (fun _ => ?_)
            refine lv_aload_n hx hb dL_areFrames_227 rfl (lv_at hl 7 rfl) ?_
            refine lv_iload hx hb dL_areFrames_228 (lv_at hl 15 rfl) ?_
            have hPc : va_P D vwCl (pm_cl y L S Bs pi kn Gs sv U) H := pq_kept hP0 hS
            refine vp_callSi (W.runV (As := [.int (nI k)]) (rest := []) ⟨hx, hb, hml, hown, hts⟩ (k_X3_why l D y L S Bs pi kn Gs sv U Bs Gs (nI k) hI.1) (cwV 1 hts gL_areFrames_X3_why rfl rfl rfl hd_X3_why ⟨Nat.le_of_ble_eq_true rfl, Nat.le_of_ble_eq_true rfl⟩) ⟨pm_ro_blind, va_recv hK hPc (ci := 3) (q0 := 0) rfl rfl, pm_ro_pre hPc hK⟩ rfl rfl hl.1 rfl (lv_room (Nat.le_of_ble_eq_true rfl)) dL_areFrames_230 ⟨Nat.le_of_ble_eq_true rfl, Nat.le_of_ble_eq_true rfl⟩) (fun r118 h119 => ?_)
            obtain rfl : r118 = nI 2 := h119.trans (hw)
            refine lv_iload hx hb dL_areFrames_233 (lv_at hl 0 rfl) ?_
            refine lv_icmp_ne (tgt := 252) hx hb dL_areFrames_235 (by decide) (fun c120 => (c120 (by decide)).elim) (fun _ => ?_)
            refine lv_iload hx hb dL_areFrames_238 (lv_at hl 6 rfl) ?_
            refine lv_if_eq (tgt := 254) hx hb dL_areFrames_240 (by decide) (fun _ => ?_) (fun c121 => (c121 (by decide)).elim)
            refine lv_aload_n hx hb dL_areFrames_254 rfl (lv_at hl 8 rfl) ?_
            refine lv_iload hx hb dL_areFrames_255 (lv_at hl 6 rfl) ?_
            refine lv_dup2_11 hx hb dL_areFrames_257 rfl rfl ?_
            refine kx_iald (v := nI (pm_hm S 0 k)) hx hb hK hP 0 0 rfl rfl (by decide) (by decide) rfl dL_areFrames_258 ?_
            refine lv_iconst (v := nI 1) hx hb dL_areFrames_259 (by decide) ?_
            refine kx_iadd hx hb dL_areFrames_260 ?_
            refine kx_iast (ws' := [(aw, .inl (y 0, 4, .inl (pm_vn (fun j => pm_hm S j (k + 1)))))]) hx hb hK hP hD hS 0 0 rfl rfl (by decide) (by decide) (pq_how h0) rfl dL_areFrames_261 (fun H locs hP hD hS => ?_)
            refine lv_iload_n hx hb dL_areFrames_262 rfl (lv_at hl 9 rfl) ?_
            refine lv_iload hx hb dL_areFrames_263 (lv_at hl 6 rfl) ?_
            refine lv_iconst (v := nI 1) hx hb dL_areFrames_265 (by decide) ?_
            refine lv_icmp_ne (tgt := 280) hx hb dL_areFrames_266 (by decide) (fun _ => ?_) (fun c122 => absurd c122 (by decide))
            refine lv_iconst (v := nI 0) hx hb dL_areFrames_280 (by decide) ?_
            refine kx_iadd hx hb dL_areFrames_281 ?_
            refine lv_istore_n (lv' := [(2, .int (nI ((pm_pf S k) + 0))), (15, .int (nI 2)), (14, .int (nI 1)), (13, .int (nI 0)), (12, .int (nI (S 2 k))), (11, .int (nI (pm_ck (S 4 k)))), (10, .int (nI (pm_tk (S 4 k)))), (9, .int (nI 0)), (0, .ref (L 0 0)), (1, .ref aw), (3, .int (nI (pm_rl S k))), (4, .int (nI (pm_lm S k))), (5, .int (nI (pm_bc S 1 k))), (6, .int (nI (pm_bc S 2 k))), (7, .int (nI (pm_bc S 0 k))), (8, .int (nI k))]) hx hb dL_areFrames_282 rfl hl (by decide) rfl (fun ls hl => ?_)
            refine lv_iload hx hb dL_areFrames_283 (lv_at hl 3 rfl) ?_
            refine lv_if_ne (tgt := 292) hx hb dL_areFrames_285 (by decide) (fun c123 => (c123 (by decide)).elim) (fun _ => ?_)
            refine lv_iconst (v := nI 0) hx hb dL_areFrames_288 (by decide) ?_
            refine lv_goto (tgt := 307) hx hb dL_areFrames_289 (by decide) ?_
            refine lv_istore_n (lv' := [(3, .int (nI 0)), (2, .int (nI ((pm_pf S k) + 0))), (15, .int (nI 2)), (14, .int (nI 1)), (13, .int (nI 0)), (12, .int (nI (S 2 k))), (11, .int (nI (pm_ck (S 4 k)))), (10, .int (nI (pm_tk (S 4 k)))), (9, .int (nI 0)), (0, .ref (L 0 0)), (1, .ref aw), (4, .int (nI (pm_lm S k))), (5, .int (nI (pm_bc S 1 k))), (6, .int (nI (pm_bc S 2 k))), (7, .int (nI (pm_bc S 0 k))), (8, .int (nI k))]) hx hb dL_areFrames_307 rfl hl (by decide) rfl (fun ls hl => ?_)
            refine lv_iload_n hx hb dL_areFrames_308 rfl (lv_at hl 0 rfl) ?_
            refine lv_iload hx hb dL_areFrames_309 (lv_at hl 11 rfl) ?_
            refine kx_icmp_le (tgt := 318) hx hb (by decide) (by omega) dL_areFrames_311 (by decide) (fun c124 => ?_) (fun c124 => by exfalso; omega)
            refine lv_iload hx hb dL_areFrames_318 (lv_at hl 11 rfl) ?_
            refine lv_istore (lv' := [(4, .int (nI (pm_lm S k))), (3, .int (nI 0)), (2, .int (nI ((pm_pf S k) + 0))), (15, .int (nI 2)), (14, .int (nI 1)), (13, .int (nI 0)), (12, .int (nI (S 2 k))), (11, .int (nI (pm_ck (S 4 k)))), (10, .int (nI (pm_tk (S 4 k)))), (9, .int (nI 0)), (0, .ref (L 0 0)), (1, .ref aw), (5, .int (nI (pm_bc S 1 k))), (6, .int (nI (pm_bc S 2 k))), (7, .int (nI (pm_bc S 0 k))), (8, .int (nI k))]) hx hb dL_areFrames_320 hl (by decide) rfl (fun ls hl => ?_)
            refine lv_iload hx hb dL_areFrames_322 (lv_at hl 8 rfl) ?_
            refine lv_iload hx hb dL_areFrames_324 (lv_at hl 7 rfl) ?_
            refine kx_iadd hx hb dL_areFrames_326 ?_
            refine kx_if_ne (tgt := 334) hx hb (by omega) dL_areFrames_327 (by decide) (fun c125 => ?_) (fun c125 => by exfalso; omega)
            refine lv_iconst (v := nI 0) hx hb dL_areFrames_334 (by decide) ?_
            refine lv_istore (lv' := [(16, .int (nI 0)), (4, .int (nI (pm_lm S k))), (3, .int (nI 0)), (2, .int (nI ((pm_pf S k) + 0))), (15, .int (nI 2)), (14, .int (nI 1)), (13, .int (nI 0)), (12, .int (nI (S 2 k))), (11, .int (nI (pm_ck (S 4 k)))), (10, .int (nI (pm_tk (S 4 k)))), (9, .int (nI 0)), (0, .ref (L 0 0)), (1, .ref aw), (5, .int (nI (pm_bc S 1 k))), (6, .int (nI (pm_bc S 2 k))), (7, .int (nI (pm_bc S 0 k))), (8, .int (nI k))]) hx hb dL_areFrames_335 hl (by decide) rfl (fun ls hl => ?_)
            refine lv_iload hx hb dL_areFrames_337 (lv_at hl 10 rfl) ?_
            refine lv_if_ne (tgt := 393) hx hb dL_areFrames_339 (by decide) (fun c126 => (c126 (by decide)).elim) (fun _ => ?_)
            refine lv_iload hx hb dL_areFrames_342 (lv_at hl 8 rfl) ?_
            refine vp_callSi (W.runS (As := [.int (nI (pm_ck (S 4 k)))]) (rest := []) ⟨hx, hb, hml, hown, hts⟩ (k_L_ones l (pm_ck (S 4 k)) (by omega)) (va_cwS 1 hts gL_areFrames_L_ones rfl rfl rfl hd_L_ones ⟨Nat.le_of_ble_eq_true rfl, Nat.le_of_ble_eq_true rfl⟩) ⟨pm_no_blind, pm_no_pre⟩ rfl rfl hl.1 rfl (lv_room (Nat.le_of_ble_eq_true rfl)) dL_areFrames_344 ⟨Nat.le_of_ble_eq_true rfl, Nat.le_of_ble_eq_true rfl⟩) (fun r127 h128 => ?_)
            obtain rfl : r127 = nI (pm_cc (S 4 k)) := h128
            have : pm_cc (S 4 k) < 4 := pm_pc4 _
            refine lv_iconst (v := nI 1) hx hb dL_areFrames_347 (by decide) ?_
            refine kx_icmp_gt (tgt := 389) hx hb (by omega) (by decide) dL_areFrames_348 (by decide) (fun c129 => by exfalso; omega) (fun c129 => ?_)
            refine lv_iload hx hb dL_areFrames_351 (lv_at hl 8 rfl) ?_
            refine kx_if_ne (tgt := 393) hx hb (by omega) dL_areFrames_353 (by decide) (fun c130 => ?_) (fun c130 => by exfalso; omega)
            refine lv_iconst (v := nI 0) hx hb dL_areFrames_393 (by decide) ?_
            refine lv_istore (lv' := [(17, .int (nI 0)), (16, .int (nI 0)), (4, .int (nI (pm_lm S k))), (3, .int (nI 0)), (2, .int (nI ((pm_pf S k) + 0))), (15, .int (nI 2)), (14, .int (nI 1)), (13, .int (nI 0)), (12, .int (nI (S 2 k))), (11, .int (nI (pm_ck (S 4 k)))), (10, .int (nI (pm_tk (S 4 k)))), (9, .int (nI 0)), (0, .ref (L 0 0)), (1, .ref aw), (5, .int (nI (pm_bc S 1 k))), (6, .int (nI (pm_bc S 2 k))), (7, .int (nI (pm_bc S 0 k))), (8, .int (nI k))]) hx hb dL_areFrames_394 hl (by decide) rfl (fun ls hl => ?_)
            refine lv_iload hx hb dL_areFrames_396 (lv_at hl 14 rfl) ?_
            refine lv_iload hx hb dL_areFrames_398 (lv_at hl 5 rfl) ?_
            refine lv_if_ne (tgt := 407) hx hb dL_areFrames_400 (by decide) (fun _ => ?_) (fun c131 => absurd c131 (by decide))
            refine lv_iconst (v := nI 0) hx hb dL_areFrames_407 (by decide) ?_
            refine kx_iadd hx hb dL_areFrames_408 ?_
            refine lv_istore (lv' := [(5, .int (nI ((pm_bc S 1 k) + 0))), (17, .int (nI 0)), (16, .int (nI 0)), (4, .int (nI (pm_lm S k))), (3, .int (nI 0)), (2, .int (nI ((pm_pf S k) + 0))), (15, .int (nI 2)), (14, .int (nI 1)), (13, .int (nI 0)), (12, .int (nI (S 2 k))), (11, .int (nI (pm_ck (S 4 k)))), (10, .int (nI (pm_tk (S 4 k)))), (9, .int (nI 0)), (0, .ref (L 0 0)), (1, .ref aw), (6, .int (nI (pm_bc S 2 k))), (7, .int (nI (pm_bc S 0 k))), (8, .int (nI k))]) hx hb dL_areFrames_409 hl (by decide) rfl (fun ls hl => ?_)
            refine lv_iload hx hb dL_areFrames_411 (lv_at hl 15 rfl) ?_
            refine lv_iload hx hb dL_areFrames_413 (lv_at hl 1 rfl) ?_
            refine lv_if_eq (tgt := 422) hx hb dL_areFrames_415 (by decide) (fun _ => ?_) (fun c132 => (c132 (by decide)).elim)
            refine lv_iconst (v := nI 0) hx hb dL_areFrames_422 (by decide) ?_
            refine kx_iadd hx hb dL_areFrames_423 ?_
            refine lv_istore (lv' := [(6, .int (nI ((pm_bc S 2 k) + 0))), (5, .int (nI ((pm_bc S 1 k) + 0))), (17, .int (nI 0)), (16, .int (nI 0)), (4, .int (nI (pm_lm S k))), (3, .int (nI 0)), (2, .int (nI ((pm_pf S k) + 0))), (15, .int (nI 2)), (14, .int (nI 1)), (13, .int (nI 0)), (12, .int (nI (S 2 k))), (11, .int (nI (pm_ck (S 4 k)))), (10, .int (nI (pm_tk (S 4 k)))), (9, .int (nI 0)), (0, .ref (L 0 0)), (1, .ref aw), (7, .int (nI (pm_bc S 0 k))), (8, .int (nI k))]) hx hb dL_areFrames_424 hl (by decide) rfl (fun ls hl => ?_)
            refine lv_iload hx hb dL_areFrames_426 (lv_at hl 16 rfl) ?_
            refine lv_iload hx hb dL_areFrames_428 (lv_at hl 13 rfl) ?_
            refine lv_if_ne (tgt := 447) hx hb dL_areFrames_430 (by decide) (fun c133 => (c133 (by decide)).elim) (fun _ => ?_)
            refine lv_iload hx hb dL_areFrames_433 (lv_at hl 7 rfl) ?_
            refine lv_if_eq (tgt := 447) hx hb dL_areFrames_435 (by decide) (fun c134 => absurd c134 (by decide)) (fun _ => ?_)
            refine lv_iload hx hb dL_areFrames_438 (lv_at hl 2 rfl) ?_
            refine lv_if_ne (tgt := 447) hx hb dL_areFrames_440 (by decide) (fun c135 => (c135 (by decide)).elim) (fun _ => ?_)
            refine lv_iconst (v := nI 1) hx hb dL_areFrames_443 (by decide) ?_
            refine lv_goto (tgt := 448) hx hb dL_areFrames_444 (by decide) ?_
            refine kx_iadd hx hb dL_areFrames_448 ?_
            refine lv_istore (lv' := [(7, .int (nI ((pm_bc S 0 k) + 1))), (6, .int (nI ((pm_bc S 2 k) + 0))), (5, .int (nI ((pm_bc S 1 k) + 0))), (17, .int (nI 0)), (16, .int (nI 0)), (4, .int (nI (pm_lm S k))), (3, .int (nI 0)), (2, .int (nI ((pm_pf S k) + 0))), (15, .int (nI 2)), (14, .int (nI 1)), (13, .int (nI 0)), (12, .int (nI (S 2 k))), (11, .int (nI (pm_ck (S 4 k)))), (10, .int (nI (pm_tk (S 4 k)))), (9, .int (nI 0)), (0, .ref (L 0 0)), (1, .ref aw), (8, .int (nI k))]) hx hb dL_areFrames_449 hl (by decide) rfl (fun ls hl => ?_)
            refine kx_iinc (a := k) (lv' := [(8, .int (nI (k + 1))), (7, .int (nI ((pm_bc S 0 k) + 1))), (6, .int (nI ((pm_bc S 2 k) + 0))), (5, .int (nI ((pm_bc S 1 k) + 0))), (17, .int (nI 0)), (16, .int (nI 0)), (4, .int (nI (pm_lm S k))), (3, .int (nI 0)), (2, .int (nI ((pm_pf S k) + 0))), (15, .int (nI 2)), (14, .int (nI 1)), (13, .int (nI 0)), (12, .int (nI (S 2 k))), (11, .int (nI (pm_ck (S 4 k)))), (10, .int (nI (pm_tk (S 4 k)))), (9, .int (nI 0)), (0, .ref (L 0 0)), (1, .ref aw)]) hx hb dL_areFrames_451 hl (k := 17) rfl (by decide) rfl (fun ls hl => ?_)
            refine lv_goto (tgt := 23) hx hb dL_areFrames_454 (by decide) ?_
            have q136 : (nI (pm_pf S (k + 1)) : Int32) = nI ((pm_pf S k) + 0) := (congrArg nI (pm_pf_n (by omega)))
            have q137 : (nI (pm_rl S (k + 1)) : Int32) = nI 0 := (congrArg nI hrl)
            have q138 : (nI (pm_lm S (k + 1)) : Int32) = nI (pm_lm S k) := (congrArg nI (by rw [pq_lm hrl]; split <;> omega))
            have q139 : (nI (pm_bc S 1 (k + 1)) : Int32) = nI ((pm_bc S 1 k) + 0) := (congrArg nI (pq_bcs h0 ha 1))
            have q140 : (nI (pm_bc S 2 (k + 1)) : Int32) = nI ((pm_bc S 2 k) + 0) := (congrArg nI (pq_bcs h0 ha 2))
            have q141 : (nI (pm_bc S 0 (k + 1)) : Int32) = nI ((pm_bc S 0 k) + 1) := (congrArg nI (pq_bcs h0 ha 0))
            exact ih3 (k + 1) ls H locs hP hD hS (by omega) (by omega) (by rw [q136, q137, q138, q139, q140, q141]; exact lv_sub hl [16, 17, 8, 7, 6, 3, 2, 1, 0] rfl) 
          · skip
            refine lv_aload_n hx hb dL_areFrames_30 rfl (lv_at hl 0 rfl) ?_
            refine lv_iload hx hb dL_areFrames_31 (lv_at hl 8 rfl) ?_
            refine lv_iconst (v := nI 0) hx hb dL_areFrames_33 (by decide) ?_
            have hPc : va_P D vwCl (pm_cl y L S Bs pi kn Gs sv U) H := pq_kept hP0 hS
            refine vp_callSi (W.runV (As := [.int (nI k), .int (nI 0)]) (rest := []) ⟨hx, hb, hml, hown, hts⟩ (k_X3_of l D y L S Bs pi kn Gs sv U Bs Gs (nI k) (nI 0) hI.1) (cwV 2 hts gL_areFrames_X3_of rfl rfl rfl hd_X3_of ⟨Nat.le_of_ble_eq_true rfl, Nat.le_of_ble_eq_true rfl⟩) ⟨pm_ro_blind, va_recv hK hPc (ci := 3) (q0 := 0) rfl rfl, pm_ro_pre hPc hK⟩ rfl rfl hl.1 rfl (lv_room (Nat.le_of_ble_eq_true rfl)) dL_areFrames_34 ⟨Nat.le_of_ble_eq_true rfl, Nat.le_of_ble_eq_true rfl⟩) (fun r142 h143 => ?_)
            obtain rfl : r142 = nI 0 := h143.trans ((pq_of0 (by omega)).trans (congrArg nI h0))
            refine lv_istore (lv' := [(9, .int (nI 0)), (0, .ref (L 0 0)), (1, .ref aw), (2, .int (nI (pm_pf S k))), (3, .int (nI (pm_rl S k))), (4, .int (nI (pm_lm S k))), (5, .int (nI (pm_bc S 1 k))), (6, .int (nI (pm_bc S 2 k))), (7, .int (nI (pm_bc S 0 k))), (8, .int (nI k))]) hx hb dL_areFrames_37 hl (by decide) rfl (fun ls hl => ?_)
            refine lv_aload_n hx hb dL_areFrames_39 rfl (lv_at hl 1 rfl) ?_
            refine lv_iload hx hb dL_areFrames_40 (lv_at hl 9 rfl) ?_
            refine lv_iconst (v := nI 1) hx hb dL_areFrames_42 (by decide) ?_
            have hPc : va_P D vwCl (pm_cl y L S Bs pi kn Gs sv U) H := pq_kept hP0 hS
            refine vp_callSi (W.runV (As := [.int (nI k), .int (nI 1)]) (rest := []) ⟨hx, hb, hml, hown, hts⟩ (k_X3_of l D y L S Bs pi kn Gs sv U Bs Gs (nI k) (nI 1) hI.1) (cwV 2 hts gL_areFrames_X3_of rfl rfl rfl hd_X3_of ⟨Nat.le_of_ble_eq_true rfl, Nat.le_of_ble_eq_true rfl⟩) ⟨pm_ro_blind, va_recv hK hPc (ci := 3) (q0 := 0) rfl rfl, pm_ro_pre hPc hK⟩ rfl rfl hl.1 rfl (lv_room (Nat.le_of_ble_eq_true rfl)) dL_areFrames_43 ⟨Nat.le_of_ble_eq_true rfl, Nat.le_of_ble_eq_true rfl⟩) (fun r144 h145 => ?_)
            obtain rfl : r144 = nI (pm_tk (S 4 k)) := h145.trans (pq_of1 (by omega))
            have := pm_tk8 (S 4 k)
            refine lv_istore (lv' := [(10, .int (nI (pm_tk (S 4 k)))), (9, .int (nI 0)), (0, .ref (L 0 0)), (1, .ref aw), (2, .int (nI (pm_pf S k))), (3, .int (nI (pm_rl S k))), (4, .int (nI (pm_lm S k))), (5, .int (nI (pm_bc S 1 k))), (6, .int (nI (pm_bc S 2 k))), (7, .int (nI (pm_bc S 0 k))), (8, .int (nI k))]) hx hb dL_areFrames_46 hl (by decide) rfl (fun ls hl => ?_)
            refine lv_aload_n hx hb dL_areFrames_48 rfl (lv_at hl 2 rfl) ?_
            refine lv_iload hx hb dL_areFrames_49 (lv_at hl 10 rfl) ?_
            refine lv_iconst (v := nI 2) hx hb dL_areFrames_51 (by decide) ?_
            have hPc : va_P D vwCl (pm_cl y L S Bs pi kn Gs sv U) H := pq_kept hP0 hS
            refine vp_callSi (W.runV (As := [.int (nI k), .int (nI 2)]) (rest := []) ⟨hx, hb, hml, hown, hts⟩ (k_X3_of l D y L S Bs pi kn Gs sv U Bs Gs (nI k) (nI 2) hI.1) (cwV 2 hts gL_areFrames_X3_of rfl rfl rfl hd_X3_of ⟨Nat.le_of_ble_eq_true rfl, Nat.le_of_ble_eq_true rfl⟩) ⟨pm_ro_blind, va_recv hK hPc (ci := 3) (q0 := 0) rfl rfl, pm_ro_pre hPc hK⟩ rfl rfl hl.1 rfl (lv_room (Nat.le_of_ble_eq_true rfl)) dL_areFrames_52 ⟨Nat.le_of_ble_eq_true rfl, Nat.le_of_ble_eq_true rfl⟩) (fun r146 h147 => ?_)
            obtain rfl : r146 = nI (pm_ck (S 4 k)) := h147.trans (pq_of2 (by omega))
            have := pm_ck8 (S 4 k)
            refine lv_istore (lv' := [(11, .int (nI (pm_ck (S 4 k)))), (10, .int (nI (pm_tk (S 4 k)))), (9, .int (nI 0)), (0, .ref (L 0 0)), (1, .ref aw), (2, .int (nI (pm_pf S k))), (3, .int (nI (pm_rl S k))), (4, .int (nI (pm_lm S k))), (5, .int (nI (pm_bc S 1 k))), (6, .int (nI (pm_bc S 2 k))), (7, .int (nI (pm_bc S 0 k))), (8, .int (nI k))]) hx hb dL_areFrames_55 hl (by decide) rfl (fun ls hl => ?_)
            refine lv_aload_n hx hb dL_areFrames_57 rfl (lv_at hl 3 rfl) ?_
            refine lv_iload hx hb dL_areFrames_58 (lv_at hl 11 rfl) ?_
            refine lv_iconst (v := nI 4) hx hb dL_areFrames_60 (by decide) ?_
            have hPc : va_P D vwCl (pm_cl y L S Bs pi kn Gs sv U) H := pq_kept hP0 hS
            refine vp_callSi (W.runV (As := [.int (nI k), .int (nI 4)]) (rest := []) ⟨hx, hb, hml, hown, hts⟩ (k_X3_of l D y L S Bs pi kn Gs sv U Bs Gs (nI k) (nI 4) hI.1) (cwV 2 hts gL_areFrames_X3_of rfl rfl rfl hd_X3_of ⟨Nat.le_of_ble_eq_true rfl, Nat.le_of_ble_eq_true rfl⟩) ⟨pm_ro_blind, va_recv hK hPc (ci := 3) (q0 := 0) rfl rfl, pm_ro_pre hPc hK⟩ rfl rfl hl.1 rfl (lv_room (Nat.le_of_ble_eq_true rfl)) dL_areFrames_61 ⟨Nat.le_of_ble_eq_true rfl, Nat.le_of_ble_eq_true rfl⟩) (fun r148 h149 => ?_)
            obtain rfl : r148 = nI (S 2 k) := h149.trans (pq_of4 (by omega))
            have := hI.1.size k (by omega)
            refine lv_istore (lv' := [(12, .int (nI (S 2 k))), (11, .int (nI (pm_ck (S 4 k)))), (10, .int (nI (pm_tk (S 4 k)))), (9, .int (nI 0)), (0, .ref (L 0 0)), (1, .ref aw), (2, .int (nI (pm_pf S k))), (3, .int (nI (pm_rl S k))), (4, .int (nI (pm_lm S k))), (5, .int (nI (pm_bc S 1 k))), (6, .int (nI (pm_bc S 2 k))), (7, .int (nI (pm_bc S 0 k))), (8, .int (nI k))]) hx hb dL_areFrames_64 hl (by decide) rfl (fun ls hl => ?_)
            refine lv_iload hx hb dL_areFrames_66 (lv_at hl 3 rfl) ?_
            refine lv_iconst (v := nI 1) hx hb dL_areFrames_68 (by decide) ?_
            refine lv_icmp_eq (tgt := 78) hx hb dL_areFrames_69 (by decide) (fun c150 => absurd c150 (by decide)) (fun _ => ?_)
            refine lv_iload hx hb dL_areFrames_72 (lv_at hl 3 rfl) ?_
            refine lv_iconst (v := nI 3) hx hb dL_areFrames_74 (by decide) ?_
            refine lv_icmp_ne (tgt := 82) hx hb dL_areFrames_75 (by decide) (fun _ => ?_) (fun c151 => absurd c151 (by decide))
            refine lv_iconst (v := nI 0) hx hb dL_areFrames_82 (by decide) ?_
            refine lv_istore (lv' := [(13, .int (nI 0)), (12, .int (nI (S 2 k))), (11, .int (nI (pm_ck (S 4 k)))), (10, .int (nI (pm_tk (S 4 k)))), (9, .int (nI 0)), (0, .ref (L 0 0)), (1, .ref aw), (2, .int (nI (pm_pf S k))), (3, .int (nI (pm_rl S k))), (4, .int (nI (pm_lm S k))), (5, .int (nI (pm_bc S 1 k))), (6, .int (nI (pm_bc S 2 k))), (7, .int (nI (pm_bc S 0 k))), (8, .int (nI k))]) hx hb dL_areFrames_83 hl (by decide) rfl (fun ls hl => ?_)
            refine lv_iload hx hb dL_areFrames_85 (lv_at hl 4 rfl) ?_
            refine lv_if_lt (tgt := 180) hx hb dL_areFrames_87 (by decide) (fun c152 => absurd c152 (by decide)) (fun _ => ?_)
            refine lv_iload hx hb dL_areFrames_90 (lv_at hl 4 rfl) ?_
            refine lv_iconst (v := nI 4) hx hb dL_areFrames_92 (by decide) ?_
            refine lv_icmp_ge (tgt := 180) hx hb dL_areFrames_93 (by decide) (fun c153 => absurd c153 (by decide)) (fun _ => ?_)
            refine lv_iload hx hb dL_areFrames_96 (lv_at hl 3 rfl) ?_
            refine lv_iload hx hb dL_areFrames_98 (lv_at hl 2 rfl) ?_
            refine lv_iand hx hb dL_areFrames_100 ?_
            refine lv_topi (fun x154 e155 => ?_)
            obtain rfl : x154 = nI 0 := e155.trans (pq_and (hI.1.okm k hk))
            refine lv_if_ne (tgt := 180) hx hb dL_areFrames_101 (by decide) (fun c156 => (c156 (by decide)).elim) (fun _ => ?_)
            refine lv_iload hx hb dL_areFrames_104 (lv_at hl 4 rfl) ?_
            refine lv_if_eq (tgt := 117) hx hb dL_areFrames_106 (by decide) (fun _ => ?_) (fun c157 => (c157 (by decide)).elim)
            refine lv_iload hx hb dL_areFrames_117 (lv_at hl 0 rfl) ?_
            refine lv_if_eq (tgt := 161) hx hb dL_areFrames_119 (by decide) (fun _ => ?_) (fun c158 => (c158 (by decide)).elim)
            refine lv_iload hx hb dL_areFrames_161 (lv_at hl 1 rfl) ?_
            refine kx_if_ne (tgt := 180) hx hb (by omega) dL_areFrames_163 (by decide) (fun c159 => by exfalso; omega) (fun c159 => ?_)
            refine lv_aload_n hx hb dL_areFrames_166 rfl (lv_at hl 5 rfl) ?_
            refine lv_iload hx hb dL_areFrames_167 (lv_at hl 13 rfl) ?_
            refine lv_iconst (v := nI 3) hx hb dL_areFrames_169 (by decide) ?_
            have hPc : va_P D vwCl (pm_cl y L S Bs pi kn Gs sv U) H := pq_kept hP0 hS
            refine vp_callSi (W.runV (As := [.int (nI k), .int (nI 3)]) (rest := []) ⟨hx, hb, hml, hown, hts⟩ (k_X3_of l D y L S Bs pi kn Gs sv U Bs Gs (nI k) (nI 3) hI.1) (cwV 2 hts gL_areFrames_X3_of rfl rfl rfl hd_X3_of ⟨Nat.le_of_ble_eq_true rfl, Nat.le_of_ble_eq_true rfl⟩) ⟨pm_ro_blind, va_recv hK hPc (ci := 3) (q0 := 0) rfl rfl, pm_ro_pre hPc hK⟩ rfl rfl hl.1 rfl (lv_room (Nat.le_of_ble_eq_true rfl)) dL_areFrames_170 ⟨Nat.le_of_ble_eq_true rfl, Nat.le_of_ble_eq_true rfl⟩) (fun r160 h161 => ?_)
            obtain rfl : r160 = nI (S 1 k) := h161.trans (pq_of3 (by omega))
            have := hI.1.dull k (by omega)
            have := hI.1.rnd
            refine kx_if_lt (tgt := 180) hx hb (by omega) dL_areFrames_173 (by decide) ?_
            refine lv_iconst (v := nI 1) hx hb dL_areFrames_176 (by decide) ?_
            refine lv_goto (tgt := 181) hx hb dL_areFrames_177 (by decide) ?_
            refine lv_istore (lv' := [(14, .int (nI 1)), (13, .int (nI 0)), (12, .int (nI (S 2 k))), (11, .int (nI (pm_ck (S 4 k)))), (10, .int (nI (pm_tk (S 4 k)))), (9, .int (nI 0)), (0, .ref (L 0 0)), (1, .ref aw), (2, .int (nI (pm_pf S k))), (3, .int (nI (pm_rl S k))), (4, .int (nI (pm_lm S k))), (5, .int (nI (pm_bc S 1 k))), (6, .int (nI (pm_bc S 2 k))), (7, .int (nI (pm_bc S 0 k))), (8, .int (nI k))]) hx hb dL_areFrames_181 hl (by decide) rfl (fun ls hl => ?_)
            refine lv_iload hx hb dL_areFrames_183 (lv_at hl 5 rfl) ?_
            refine lv_if_eq (tgt := 192) hx hb dL_areFrames_185 (by decide) (fun _ => ?_) (fun c162 => (c162 (by decide)).elim)
            refine lv_iload hx hb dL_areFrames_192 (lv_at hl 3 rfl) ?_
            refine kx_if_eq (tgt := 201) hx hb (by omega) dL_areFrames_194 (by decide) (fun c163 => ?_) (fun c163 => by exfalso; omega)
            refine lv_iload hx hb dL_areFrames_201 (lv_at hl 4 rfl) ?_
            refine vp_callSi (W.runS (As := [.int (nI (pm_tk (S 4 k)))]) (rest := []) ⟨hx, hb, hml, hown, hts⟩ (k_L_ones l (pm_tk (S 4 k)) (by omega)) (va_cwS 1 hts gL_areFrames_L_ones rfl rfl rfl hd_L_ones ⟨Nat.le_of_ble_eq_true rfl, Nat.le_of_ble_eq_true rfl⟩) ⟨pm_no_blind, pm_no_pre⟩ rfl rfl hl.1 rfl (lv_room (Nat.le_of_ble_eq_true rfl)) dL_areFrames_203 ⟨Nat.le_of_ble_eq_true rfl, Nat.le_of_ble_eq_true rfl⟩) (fun r164 h165 => ?_)
            obtain rfl : r164 = nI (pm_tc (S 4 k)) := h165
            have : pm_tc (S 4 k) < 4 := pm_pc4 _
            refine lv_aload_n hx hb dL_areFrames_206 rfl (lv_at hl 6 rfl) ?_
            refine lv_bipush (v := nI 11) hx hb dL_areFrames_207 (by decide) ?_
            have hPc : va_P D vwCl (pm_cl y L S Bs pi kn Gs sv U) H := pq_kept hP0 hS
            refine vp_callSi (W.runV (As := [.int (nI 11)]) (rest := [.int (nI (pm_tc (S 4 k)))]) ⟨hx, hb, hml, hown, hts⟩ (k_X3_count l D y L S Bs pi kn Gs sv U Bs Gs (nI 11) hI.1) (cwV 1 hts gL_areFrames_X3_count rfl rfl rfl hd_X3_count ⟨Nat.le_of_ble_eq_true rfl, Nat.le_of_ble_eq_true rfl⟩) ⟨pm_ron_blind, va_recv hK hPc (ci := 3) (q0 := 0) rfl rfl, pm_ron_pre hPc hK hN⟩ rfl rfl hl.1 rfl (lv_room (Nat.le_of_ble_eq_true rfl)) dL_areFrames_209 ⟨Nat.le_of_ble_eq_true rfl, Nat.le_of_ble_eq_true rfl⟩) (fun r166 h167 => ?_)
            obtain rfl : r166 = nI (S 9 0) := h167.trans (pq_co11)
            have := hI.1.set
            refine kx_icmp_ge (tgt := 219) hx hb (by omega) (by omega) dL_areFrames_212 (by decide) (fun c168 => ?_) (fun c168 => by exfalso; omega)
            refine lv_iconst (v := nI 0) hx hb dL_areFrames_219 (by decide) ?_
            refine lv_istore (lv' := [(15, .int (nI 0)), (14, .int (nI 1)), (13, .int (nI 0)), (12, .int (nI (S 2 k))), (11, .int (nI (pm_ck (S 4 k)))), (10, .int (nI (pm_tk (S 4 k)))), (9, .int (nI 0)), (0, .ref (L 0 0)), (1, .ref aw), (2, .int (nI (pm_pf S k))), (3, .int (nI (pm_rl S k))), (4, .int (nI (pm_lm S k))), (5, .int (nI (pm_bc S 1 k))), (6, .int (nI (pm_bc S 2 k))), (7, .int (nI (pm_bc S 0 k))), (8, .int (nI k))]) hx hb dL_areFrames_220 hl (by decide) rfl (fun ls hl => ?_)
            refine lv_iload hx hb dL_areFrames_222 (lv_at hl 1 rfl) ?_
            refine lv_if_eq (tgt := 252) hx hb dL_areFrames_224 (by decide) (fun c169 => absurd c169 (by decide)) (fun _ => ?_)
            refine lv_aload_n hx hb dL_areFrames_227 rfl (lv_at hl 7 rfl) ?_
            refine lv_iload hx hb dL_areFrames_228 (lv_at hl 15 rfl) ?_
            have hPc : va_P D vwCl (pm_cl y L S Bs pi kn Gs sv U) H := pq_kept hP0 hS
            refine vp_callSi (W.runV (As := [.int (nI k)]) (rest := []) ⟨hx, hb, hml, hown, hts⟩ (k_X3_why l D y L S Bs pi kn Gs sv U Bs Gs (nI k) hI.1) (cwV 1 hts gL_areFrames_X3_why rfl rfl rfl hd_X3_why ⟨Nat.le_of_ble_eq_true rfl, Nat.le_of_ble_eq_true rfl⟩) ⟨pm_ro_blind, va_recv hK hPc (ci := 3) (q0 := 0) rfl rfl, pm_ro_pre hPc hK⟩ rfl rfl hl.1 rfl (lv_room (Nat.le_of_ble_eq_true rfl)) dL_areFrames_230 ⟨Nat.le_of_ble_eq_true rfl, Nat.le_of_ble_eq_true rfl⟩) (fun r170 h171 => ?_)
            obtain rfl : r170 = nI 0 := h171.trans (hw)
            refine lv_iload hx hb dL_areFrames_233 (lv_at hl 0 rfl) ?_
            refine lv_icmp_ne (tgt := 252) hx hb dL_areFrames_235 (by decide) (fun c172 => (c172 (by decide)).elim) (fun _ => ?_)
            refine lv_iload hx hb dL_areFrames_238 (lv_at hl 6 rfl) ?_
            refine lv_if_eq (tgt := 254) hx hb dL_areFrames_240 (by decide) (fun _ => ?_) (fun c173 => (c173 (by decide)).elim)
            refine lv_aload_n hx hb dL_areFrames_254 rfl (lv_at hl 8 rfl) ?_
            refine lv_iload hx hb dL_areFrames_255 (lv_at hl 6 rfl) ?_
            refine lv_dup2_11 hx hb dL_areFrames_257 rfl rfl ?_
            refine kx_iald (v := nI (pm_hm S 0 k)) hx hb hK hP 0 0 rfl rfl (by decide) (by decide) rfl dL_areFrames_258 ?_
            refine lv_iconst (v := nI 1) hx hb dL_areFrames_259 (by decide) ?_
            refine kx_iadd hx hb dL_areFrames_260 ?_
            refine kx_iast (ws' := [(aw, .inl (y 0, 4, .inl (pm_vn (fun j => pm_hm S j (k + 1)))))]) hx hb hK hP hD hS 0 0 rfl rfl (by decide) (by decide) (pq_how h0) rfl dL_areFrames_261 (fun H locs hP hD hS => ?_)
            refine lv_iload_n hx hb dL_areFrames_262 rfl (lv_at hl 9 rfl) ?_
            refine lv_iload hx hb dL_areFrames_263 (lv_at hl 6 rfl) ?_
            refine lv_iconst (v := nI 1) hx hb dL_areFrames_265 (by decide) ?_
            refine lv_icmp_ne (tgt := 280) hx hb dL_areFrames_266 (by decide) (fun _ => ?_) (fun c174 => absurd c174 (by decide))
            refine lv_iconst (v := nI 0) hx hb dL_areFrames_280 (by decide) ?_
            refine kx_iadd hx hb dL_areFrames_281 ?_
            refine lv_istore_n (lv' := [(2, .int (nI ((pm_pf S k) + 0))), (15, .int (nI 0)), (14, .int (nI 1)), (13, .int (nI 0)), (12, .int (nI (S 2 k))), (11, .int (nI (pm_ck (S 4 k)))), (10, .int (nI (pm_tk (S 4 k)))), (9, .int (nI 0)), (0, .ref (L 0 0)), (1, .ref aw), (3, .int (nI (pm_rl S k))), (4, .int (nI (pm_lm S k))), (5, .int (nI (pm_bc S 1 k))), (6, .int (nI (pm_bc S 2 k))), (7, .int (nI (pm_bc S 0 k))), (8, .int (nI k))]) hx hb dL_areFrames_282 rfl hl (by decide) rfl (fun ls hl => ?_)
            refine lv_iload hx hb dL_areFrames_283 (lv_at hl 3 rfl) ?_
            refine lv_if_ne (tgt := 292) hx hb dL_areFrames_285 (by decide) (fun c175 => (c175 (by decide)).elim) (fun _ => ?_)
            refine lv_iconst (v := nI 0) hx hb dL_areFrames_288 (by decide) ?_
            refine lv_goto (tgt := 307) hx hb dL_areFrames_289 (by decide) ?_
            refine lv_istore_n (lv' := [(3, .int (nI 0)), (2, .int (nI ((pm_pf S k) + 0))), (15, .int (nI 0)), (14, .int (nI 1)), (13, .int (nI 0)), (12, .int (nI (S 2 k))), (11, .int (nI (pm_ck (S 4 k)))), (10, .int (nI (pm_tk (S 4 k)))), (9, .int (nI 0)), (0, .ref (L 0 0)), (1, .ref aw), (4, .int (nI (pm_lm S k))), (5, .int (nI (pm_bc S 1 k))), (6, .int (nI (pm_bc S 2 k))), (7, .int (nI (pm_bc S 0 k))), (8, .int (nI k))]) hx hb dL_areFrames_307 rfl hl (by decide) rfl (fun ls hl => ?_)
            refine lv_iload_n hx hb dL_areFrames_308 rfl (lv_at hl 0 rfl) ?_
            refine lv_iload hx hb dL_areFrames_309 (lv_at hl 11 rfl) ?_
            refine kx_icmp_le (tgt := 318) hx hb (by decide) (by omega) dL_areFrames_311 (by decide) (fun c176 => ?_) (fun c176 => by exfalso; omega)
            refine lv_iload hx hb dL_areFrames_318 (lv_at hl 11 rfl) ?_
            refine lv_istore (lv' := [(4, .int (nI (pm_lm S k))), (3, .int (nI 0)), (2, .int (nI ((pm_pf S k) + 0))), (15, .int (nI 0)), (14, .int (nI 1)), (13, .int (nI 0)), (12, .int (nI (S 2 k))), (11, .int (nI (pm_ck (S 4 k)))), (10, .int (nI (pm_tk (S 4 k)))), (9, .int (nI 0)), (0, .ref (L 0 0)), (1, .ref aw), (5, .int (nI (pm_bc S 1 k))), (6, .int (nI (pm_bc S 2 k))), (7, .int (nI (pm_bc S 0 k))), (8, .int (nI k))]) hx hb dL_areFrames_320 hl (by decide) rfl (fun ls hl => ?_)
            refine lv_iload hx hb dL_areFrames_322 (lv_at hl 8 rfl) ?_
            refine lv_iload hx hb dL_areFrames_324 (lv_at hl 7 rfl) ?_
            refine kx_iadd hx hb dL_areFrames_326 ?_
            refine kx_if_ne (tgt := 334) hx hb (by omega) dL_areFrames_327 (by decide) (fun c177 => ?_) (fun c177 => by exfalso; omega)
            refine lv_iconst (v := nI 0) hx hb dL_areFrames_334 (by decide) ?_
            refine lv_istore (lv' := [(16, .int (nI 0)), (4, .int (nI (pm_lm S k))), (3, .int (nI 0)), (2, .int (nI ((pm_pf S k) + 0))), (15, .int (nI 0)), (14, .int (nI 1)), (13, .int (nI 0)), (12, .int (nI (S 2 k))), (11, .int (nI (pm_ck (S 4 k)))), (10, .int (nI (pm_tk (S 4 k)))), (9, .int (nI 0)), (0, .ref (L 0 0)), (1, .ref aw), (5, .int (nI (pm_bc S 1 k))), (6, .int (nI (pm_bc S 2 k))), (7, .int (nI (pm_bc S 0 k))), (8, .int (nI k))]) hx hb dL_areFrames_335 hl (by decide) rfl (fun ls hl => ?_)
            refine lv_iload hx hb dL_areFrames_337 (lv_at hl 10 rfl) ?_
            refine lv_if_ne (tgt := 393) hx hb dL_areFrames_339 (by decide) (fun c178 => (c178 (by decide)).elim) (fun _ => ?_)
            refine lv_iload hx hb dL_areFrames_342 (lv_at hl 8 rfl) ?_
            refine vp_callSi (W.runS (As := [.int (nI (pm_ck (S 4 k)))]) (rest := []) ⟨hx, hb, hml, hown, hts⟩ (k_L_ones l (pm_ck (S 4 k)) (by omega)) (va_cwS 1 hts gL_areFrames_L_ones rfl rfl rfl hd_L_ones ⟨Nat.le_of_ble_eq_true rfl, Nat.le_of_ble_eq_true rfl⟩) ⟨pm_no_blind, pm_no_pre⟩ rfl rfl hl.1 rfl (lv_room (Nat.le_of_ble_eq_true rfl)) dL_areFrames_344 ⟨Nat.le_of_ble_eq_true rfl, Nat.le_of_ble_eq_true rfl⟩) (fun r179 h180 => ?_)
            obtain rfl : r179 = nI (pm_cc (S 4 k)) := h180
            have : pm_cc (S 4 k) < 4 := pm_pc4 _
            refine lv_iconst (v := nI 1) hx hb dL_areFrames_347 (by decide) ?_
            refine kx_icmp_gt (tgt := 389) hx hb (by omega) (by decide) dL_areFrames_348 (by decide) (fun c181 => by exfalso; omega) (fun c181 => ?_)
            refine lv_iload hx hb dL_areFrames_351 (lv_at hl 8 rfl) ?_
            refine kx_if_ne (tgt := 393) hx hb (by omega) dL_areFrames_353 (by decide) (fun c182 => by exfalso; omega) (fun c182 => ?_)
            refine lv_iload hx hb dL_areFrames_356 (lv_at hl 4 rfl) ?_
            refine lv_iconst (v := nI 3) hx hb dL_areFrames_358 (by decide) ?_
            refine lv_icmp_ne (tgt := 393) hx hb dL_areFrames_359 (by decide) (fun _ => ?_) (fun c183 => absurd c183 (by decide))
            refine lv_iconst (v := nI 0) hx hb dL_areFrames_393 (by decide) ?_
            refine lv_istore (lv' := [(17, .int (nI 0)), (16, .int (nI 0)), (4, .int (nI (pm_lm S k))), (3, .int (nI 0)), (2, .int (nI ((pm_pf S k) + 0))), (15, .int (nI 0)), (14, .int (nI 1)), (13, .int (nI 0)), (12, .int (nI (S 2 k))), (11, .int (nI (pm_ck (S 4 k)))), (10, .int (nI (pm_tk (S 4 k)))), (9, .int (nI 0)), (0, .ref (L 0 0)), (1, .ref aw), (5, .int (nI (pm_bc S 1 k))), (6, .int (nI (pm_bc S 2 k))), (7, .int (nI (pm_bc S 0 k))), (8, .int (nI k))]) hx hb dL_areFrames_394 hl (by decide) rfl (fun ls hl => ?_)
            refine lv_iload hx hb dL_areFrames_396 (lv_at hl 14 rfl) ?_
            refine lv_iload hx hb dL_areFrames_398 (lv_at hl 5 rfl) ?_
            refine lv_if_ne (tgt := 407) hx hb dL_areFrames_400 (by decide) (fun c184 => (c184 (by decide)).elim) (fun _ => ?_)
            refine lv_iconst (v := nI 1) hx hb dL_areFrames_403 (by decide) ?_
            refine lv_goto (tgt := 408) hx hb dL_areFrames_404 (by decide) ?_
            refine kx_iadd hx hb dL_areFrames_408 ?_
            refine lv_istore (lv' := [(5, .int (nI ((pm_bc S 1 k) + 1))), (17, .int (nI 0)), (16, .int (nI 0)), (4, .int (nI (pm_lm S k))), (3, .int (nI 0)), (2, .int (nI ((pm_pf S k) + 0))), (15, .int (nI 0)), (14, .int (nI 1)), (13, .int (nI 0)), (12, .int (nI (S 2 k))), (11, .int (nI (pm_ck (S 4 k)))), (10, .int (nI (pm_tk (S 4 k)))), (9, .int (nI 0)), (0, .ref (L 0 0)), (1, .ref aw), (6, .int (nI (pm_bc S 2 k))), (7, .int (nI (pm_bc S 0 k))), (8, .int (nI k))]) hx hb dL_areFrames_409 hl (by decide) rfl (fun ls hl => ?_)
            refine lv_iload hx hb dL_areFrames_411 (lv_at hl 15 rfl) ?_
            refine lv_iload hx hb dL_areFrames_413 (lv_at hl 1 rfl) ?_
            refine lv_if_eq (tgt := 422) hx hb dL_areFrames_415 (by decide) (fun _ => ?_) (fun c185 => (c185 (by decide)).elim)
            refine lv_iconst (v := nI 0) hx hb dL_areFrames_422 (by decide) ?_
            refine kx_iadd hx hb dL_areFrames_423 ?_
            refine lv_istore (lv' := [(6, .int (nI ((pm_bc S 2 k) + 0))), (5, .int (nI ((pm_bc S 1 k) + 1))), (17, .int (nI 0)), (16, .int (nI 0)), (4, .int (nI (pm_lm S k))), (3, .int (nI 0)), (2, .int (nI ((pm_pf S k) + 0))), (15, .int (nI 0)), (14, .int (nI 1)), (13, .int (nI 0)), (12, .int (nI (S 2 k))), (11, .int (nI (pm_ck (S 4 k)))), (10, .int (nI (pm_tk (S 4 k)))), (9, .int (nI 0)), (0, .ref (L 0 0)), (1, .ref aw), (7, .int (nI (pm_bc S 0 k))), (8, .int (nI k))]) hx hb dL_areFrames_424 hl (by decide) rfl (fun ls hl => ?_)
            refine lv_iload hx hb dL_areFrames_426 (lv_at hl 16 rfl) ?_
            refine lv_iload hx hb dL_areFrames_428 (lv_at hl 13 rfl) ?_
            refine lv_if_ne (tgt := 447) hx hb dL_areFrames_430 (by decide) (fun c186 => (c186 (by decide)).elim) (fun _ => ?_)
            refine lv_iload hx hb dL_areFrames_433 (lv_at hl 7 rfl) ?_
            refine lv_if_eq (tgt := 447) hx hb dL_areFrames_435 (by decide) (fun _ => ?_) (fun c187 => (c187 (by decide)).elim)
            refine lv_iconst (v := nI 0) hx hb dL_areFrames_447 (by decide) ?_
            refine kx_iadd hx hb dL_areFrames_448 ?_
            refine lv_istore (lv' := [(7, .int (nI ((pm_bc S 0 k) + 0))), (6, .int (nI ((pm_bc S 2 k) + 0))), (5, .int (nI ((pm_bc S 1 k) + 1))), (17, .int (nI 0)), (16, .int (nI 0)), (4, .int (nI (pm_lm S k))), (3, .int (nI 0)), (2, .int (nI ((pm_pf S k) + 0))), (15, .int (nI 0)), (14, .int (nI 1)), (13, .int (nI 0)), (12, .int (nI (S 2 k))), (11, .int (nI (pm_ck (S 4 k)))), (10, .int (nI (pm_tk (S 4 k)))), (9, .int (nI 0)), (0, .ref (L 0 0)), (1, .ref aw), (8, .int (nI k))]) hx hb dL_areFrames_449 hl (by decide) rfl (fun ls hl => ?_)
            refine kx_iinc (a := k) (lv' := [(8, .int (nI (k + 1))), (7, .int (nI ((pm_bc S 0 k) + 0))), (6, .int (nI ((pm_bc S 2 k) + 0))), (5, .int (nI ((pm_bc S 1 k) + 1))), (17, .int (nI 0)), (16, .int (nI 0)), (4, .int (nI (pm_lm S k))), (3, .int (nI 0)), (2, .int (nI ((pm_pf S k) + 0))), (15, .int (nI 0)), (14, .int (nI 1)), (13, .int (nI 0)), (12, .int (nI (S 2 k))), (11, .int (nI (pm_ck (S 4 k)))), (10, .int (nI (pm_tk (S 4 k)))), (9, .int (nI 0)), (0, .ref (L 0 0)), (1, .ref aw)]) hx hb dL_areFrames_451 hl (k := 17) rfl (by decide) rfl (fun ls hl => ?_)
            refine lv_goto (tgt := 23) hx hb dL_areFrames_454 (by decide) ?_
            have q188 : (nI (pm_pf S (k + 1)) : Int32) = nI ((pm_pf S k) + 0) := (congrArg nI (pm_pf_n (by omega)))
            have q189 : (nI (pm_rl S (k + 1)) : Int32) = nI 0 := (congrArg nI hrl)
            have q190 : (nI (pm_lm S (k + 1)) : Int32) = nI (pm_lm S k) := (congrArg nI (by rw [pq_lm hrl]; split <;> omega))
            have q191 : (nI (pm_bc S 1 (k + 1)) : Int32) = nI ((pm_bc S 1 k) + 1) := (congrArg nI (pq_bcs h0 ha 1))
            have q192 : (nI (pm_bc S 2 (k + 1)) : Int32) = nI ((pm_bc S 2 k) + 0) := (congrArg nI (pq_bcs h0 ha 2))
            have q193 : (nI (pm_bc S 0 (k + 1)) : Int32) = nI ((pm_bc S 0 k) + 0) := (congrArg nI (pq_bcs h0 ha 0))
            exact ih3 (k + 1) ls H locs hP hD hS (by omega) (by omega) (by rw [q188, q189, q190, q191, q192, q193]; exact lv_sub hl [16, 17, 8, 7, 6, 3, 2, 1, 0] rfl) 
          · skip
            refine lv_aload_n hx hb dL_areFrames_30 rfl (lv_at hl 0 rfl) ?_
            refine lv_iload hx hb dL_areFrames_31 (lv_at hl 8 rfl) ?_
            refine lv_iconst (v := nI 0) hx hb dL_areFrames_33 (by decide) ?_
            have hPc : va_P D vwCl (pm_cl y L S Bs pi kn Gs sv U) H := pq_kept hP0 hS
            refine vp_callSi (W.runV (As := [.int (nI k), .int (nI 0)]) (rest := []) ⟨hx, hb, hml, hown, hts⟩ (k_X3_of l D y L S Bs pi kn Gs sv U Bs Gs (nI k) (nI 0) hI.1) (cwV 2 hts gL_areFrames_X3_of rfl rfl rfl hd_X3_of ⟨Nat.le_of_ble_eq_true rfl, Nat.le_of_ble_eq_true rfl⟩) ⟨pm_ro_blind, va_recv hK hPc (ci := 3) (q0 := 0) rfl rfl, pm_ro_pre hPc hK⟩ rfl rfl hl.1 rfl (lv_room (Nat.le_of_ble_eq_true rfl)) dL_areFrames_34 ⟨Nat.le_of_ble_eq_true rfl, Nat.le_of_ble_eq_true rfl⟩) (fun r194 h195 => ?_)
            obtain rfl : r194 = nI 0 := h195.trans ((pq_of0 (by omega)).trans (congrArg nI h0))
            refine lv_istore (lv' := [(9, .int (nI 0)), (0, .ref (L 0 0)), (1, .ref aw), (2, .int (nI (pm_pf S k))), (3, .int (nI (pm_rl S k))), (4, .int (nI (pm_lm S k))), (5, .int (nI (pm_bc S 1 k))), (6, .int (nI (pm_bc S 2 k))), (7, .int (nI (pm_bc S 0 k))), (8, .int (nI k))]) hx hb dL_areFrames_37 hl (by decide) rfl (fun ls hl => ?_)
            refine lv_aload_n hx hb dL_areFrames_39 rfl (lv_at hl 1 rfl) ?_
            refine lv_iload hx hb dL_areFrames_40 (lv_at hl 9 rfl) ?_
            refine lv_iconst (v := nI 1) hx hb dL_areFrames_42 (by decide) ?_
            have hPc : va_P D vwCl (pm_cl y L S Bs pi kn Gs sv U) H := pq_kept hP0 hS
            refine vp_callSi (W.runV (As := [.int (nI k), .int (nI 1)]) (rest := []) ⟨hx, hb, hml, hown, hts⟩ (k_X3_of l D y L S Bs pi kn Gs sv U Bs Gs (nI k) (nI 1) hI.1) (cwV 2 hts gL_areFrames_X3_of rfl rfl rfl hd_X3_of ⟨Nat.le_of_ble_eq_true rfl, Nat.le_of_ble_eq_true rfl⟩) ⟨pm_ro_blind, va_recv hK hPc (ci := 3) (q0 := 0) rfl rfl, pm_ro_pre hPc hK⟩ rfl rfl hl.1 rfl (lv_room (Nat.le_of_ble_eq_true rfl)) dL_areFrames_43 ⟨Nat.le_of_ble_eq_true rfl, Nat.le_of_ble_eq_true rfl⟩) (fun r196 h197 => ?_)
            obtain rfl : r196 = nI (pm_tk (S 4 k)) := h197.trans (pq_of1 (by omega))
            have := pm_tk8 (S 4 k)
            refine lv_istore (lv' := [(10, .int (nI (pm_tk (S 4 k)))), (9, .int (nI 0)), (0, .ref (L 0 0)), (1, .ref aw), (2, .int (nI (pm_pf S k))), (3, .int (nI (pm_rl S k))), (4, .int (nI (pm_lm S k))), (5, .int (nI (pm_bc S 1 k))), (6, .int (nI (pm_bc S 2 k))), (7, .int (nI (pm_bc S 0 k))), (8, .int (nI k))]) hx hb dL_areFrames_46 hl (by decide) rfl (fun ls hl => ?_)
            refine lv_aload_n hx hb dL_areFrames_48 rfl (lv_at hl 2 rfl) ?_
            refine lv_iload hx hb dL_areFrames_49 (lv_at hl 10 rfl) ?_
            refine lv_iconst (v := nI 2) hx hb dL_areFrames_51 (by decide) ?_
            have hPc : va_P D vwCl (pm_cl y L S Bs pi kn Gs sv U) H := pq_kept hP0 hS
            refine vp_callSi (W.runV (As := [.int (nI k), .int (nI 2)]) (rest := []) ⟨hx, hb, hml, hown, hts⟩ (k_X3_of l D y L S Bs pi kn Gs sv U Bs Gs (nI k) (nI 2) hI.1) (cwV 2 hts gL_areFrames_X3_of rfl rfl rfl hd_X3_of ⟨Nat.le_of_ble_eq_true rfl, Nat.le_of_ble_eq_true rfl⟩) ⟨pm_ro_blind, va_recv hK hPc (ci := 3) (q0 := 0) rfl rfl, pm_ro_pre hPc hK⟩ rfl rfl hl.1 rfl (lv_room (Nat.le_of_ble_eq_true rfl)) dL_areFrames_52 ⟨Nat.le_of_ble_eq_true rfl, Nat.le_of_ble_eq_true rfl⟩) (fun r198 h199 => ?_)
            obtain rfl : r198 = nI (pm_ck (S 4 k)) := h199.trans (pq_of2 (by omega))
            have := pm_ck8 (S 4 k)
            refine lv_istore (lv' := [(11, .int (nI (pm_ck (S 4 k)))), (10, .int (nI (pm_tk (S 4 k)))), (9, .int (nI 0)), (0, .ref (L 0 0)), (1, .ref aw), (2, .int (nI (pm_pf S k))), (3, .int (nI (pm_rl S k))), (4, .int (nI (pm_lm S k))), (5, .int (nI (pm_bc S 1 k))), (6, .int (nI (pm_bc S 2 k))), (7, .int (nI (pm_bc S 0 k))), (8, .int (nI k))]) hx hb dL_areFrames_55 hl (by decide) rfl (fun ls hl => ?_)
            refine lv_aload_n hx hb dL_areFrames_57 rfl (lv_at hl 3 rfl) ?_
            refine lv_iload hx hb dL_areFrames_58 (lv_at hl 11 rfl) ?_
            refine lv_iconst (v := nI 4) hx hb dL_areFrames_60 (by decide) ?_
            have hPc : va_P D vwCl (pm_cl y L S Bs pi kn Gs sv U) H := pq_kept hP0 hS
            refine vp_callSi (W.runV (As := [.int (nI k), .int (nI 4)]) (rest := []) ⟨hx, hb, hml, hown, hts⟩ (k_X3_of l D y L S Bs pi kn Gs sv U Bs Gs (nI k) (nI 4) hI.1) (cwV 2 hts gL_areFrames_X3_of rfl rfl rfl hd_X3_of ⟨Nat.le_of_ble_eq_true rfl, Nat.le_of_ble_eq_true rfl⟩) ⟨pm_ro_blind, va_recv hK hPc (ci := 3) (q0 := 0) rfl rfl, pm_ro_pre hPc hK⟩ rfl rfl hl.1 rfl (lv_room (Nat.le_of_ble_eq_true rfl)) dL_areFrames_61 ⟨Nat.le_of_ble_eq_true rfl, Nat.le_of_ble_eq_true rfl⟩) (fun r200 h201 => ?_)
            obtain rfl : r200 = nI (S 2 k) := h201.trans (pq_of4 (by omega))
            have := hI.1.size k (by omega)
            refine lv_istore (lv' := [(12, .int (nI (S 2 k))), (11, .int (nI (pm_ck (S 4 k)))), (10, .int (nI (pm_tk (S 4 k)))), (9, .int (nI 0)), (0, .ref (L 0 0)), (1, .ref aw), (2, .int (nI (pm_pf S k))), (3, .int (nI (pm_rl S k))), (4, .int (nI (pm_lm S k))), (5, .int (nI (pm_bc S 1 k))), (6, .int (nI (pm_bc S 2 k))), (7, .int (nI (pm_bc S 0 k))), (8, .int (nI k))]) hx hb dL_areFrames_64 hl (by decide) rfl (fun ls hl => ?_)
            refine lv_iload hx hb dL_areFrames_66 (lv_at hl 3 rfl) ?_
            refine lv_iconst (v := nI 1) hx hb dL_areFrames_68 (by decide) ?_
            refine lv_icmp_eq (tgt := 78) hx hb dL_areFrames_69 (by decide) (fun c202 => absurd c202 (by decide)) (fun _ => ?_)
            refine lv_iload hx hb dL_areFrames_72 (lv_at hl 3 rfl) ?_
            refine lv_iconst (v := nI 3) hx hb dL_areFrames_74 (by decide) ?_
            refine lv_icmp_ne (tgt := 82) hx hb dL_areFrames_75 (by decide) (fun _ => ?_) (fun c203 => absurd c203 (by decide))
            refine lv_iconst (v := nI 0) hx hb dL_areFrames_82 (by decide) ?_
            refine lv_istore (lv' := [(13, .int (nI 0)), (12, .int (nI (S 2 k))), (11, .int (nI (pm_ck (S 4 k)))), (10, .int (nI (pm_tk (S 4 k)))), (9, .int (nI 0)), (0, .ref (L 0 0)), (1, .ref aw), (2, .int (nI (pm_pf S k))), (3, .int (nI (pm_rl S k))), (4, .int (nI (pm_lm S k))), (5, .int (nI (pm_bc S 1 k))), (6, .int (nI (pm_bc S 2 k))), (7, .int (nI (pm_bc S 0 k))), (8, .int (nI k))]) hx hb dL_areFrames_83 hl (by decide) rfl (fun ls hl => ?_)
            refine lv_iload hx hb dL_areFrames_85 (lv_at hl 4 rfl) ?_
            refine lv_if_lt (tgt := 180) hx hb dL_areFrames_87 (by decide) (fun c204 => absurd c204 (by decide)) (fun _ => ?_)
            refine lv_iload hx hb dL_areFrames_90 (lv_at hl 4 rfl) ?_
            refine lv_iconst (v := nI 4) hx hb dL_areFrames_92 (by decide) ?_
            refine lv_icmp_ge (tgt := 180) hx hb dL_areFrames_93 (by decide) (fun c205 => absurd c205 (by decide)) (fun _ => ?_)
            refine lv_iload hx hb dL_areFrames_96 (lv_at hl 3 rfl) ?_
            refine lv_iload hx hb dL_areFrames_98 (lv_at hl 2 rfl) ?_
            refine lv_iand hx hb dL_areFrames_100 ?_
            refine lv_topi (fun x206 e207 => ?_)
            obtain rfl : x206 = nI 0 := e207.trans (pq_and (hI.1.okm k hk))
            refine lv_if_ne (tgt := 180) hx hb dL_areFrames_101 (by decide) (fun c208 => (c208 (by decide)).elim) (fun _ => ?_)
            refine lv_iload hx hb dL_areFrames_104 (lv_at hl 4 rfl) ?_
            refine lv_if_eq (tgt := 117) hx hb dL_areFrames_106 (by decide) (fun _ => ?_) (fun c209 => (c209 (by decide)).elim)
            refine lv_iload hx hb dL_areFrames_117 (lv_at hl 0 rfl) ?_
            refine lv_if_eq (tgt := 161) hx hb dL_areFrames_119 (by decide) (fun _ => ?_) (fun c210 => (c210 (by decide)).elim)
            refine lv_iload hx hb dL_areFrames_161 (lv_at hl 1 rfl) ?_
            refine kx_if_ne (tgt := 180) hx hb (by omega) dL_areFrames_163 (by decide) (fun c211 => by exfalso; omega) (fun c211 => ?_)
            refine lv_aload_n hx hb dL_areFrames_166 rfl (lv_at hl 5 rfl) ?_
            refine lv_iload hx hb dL_areFrames_167 (lv_at hl 13 rfl) ?_
            refine lv_iconst (v := nI 3) hx hb dL_areFrames_169 (by decide) ?_
            have hPc : va_P D vwCl (pm_cl y L S Bs pi kn Gs sv U) H := pq_kept hP0 hS
            refine vp_callSi (W.runV (As := [.int (nI k), .int (nI 3)]) (rest := []) ⟨hx, hb, hml, hown, hts⟩ (k_X3_of l D y L S Bs pi kn Gs sv U Bs Gs (nI k) (nI 3) hI.1) (cwV 2 hts gL_areFrames_X3_of rfl rfl rfl hd_X3_of ⟨Nat.le_of_ble_eq_true rfl, Nat.le_of_ble_eq_true rfl⟩) ⟨pm_ro_blind, va_recv hK hPc (ci := 3) (q0 := 0) rfl rfl, pm_ro_pre hPc hK⟩ rfl rfl hl.1 rfl (lv_room (Nat.le_of_ble_eq_true rfl)) dL_areFrames_170 ⟨Nat.le_of_ble_eq_true rfl, Nat.le_of_ble_eq_true rfl⟩) (fun r212 h213 => ?_)
            obtain rfl : r212 = nI (S 1 k) := h213.trans (pq_of3 (by omega))
            have := hI.1.dull k (by omega)
            have := hI.1.rnd
            refine kx_if_lt (tgt := 180) hx hb (by omega) dL_areFrames_173 (by decide) ?_
            refine lv_iconst (v := nI 1) hx hb dL_areFrames_176 (by decide) ?_
            refine lv_goto (tgt := 181) hx hb dL_areFrames_177 (by decide) ?_
            refine lv_istore (lv' := [(14, .int (nI 1)), (13, .int (nI 0)), (12, .int (nI (S 2 k))), (11, .int (nI (pm_ck (S 4 k)))), (10, .int (nI (pm_tk (S 4 k)))), (9, .int (nI 0)), (0, .ref (L 0 0)), (1, .ref aw), (2, .int (nI (pm_pf S k))), (3, .int (nI (pm_rl S k))), (4, .int (nI (pm_lm S k))), (5, .int (nI (pm_bc S 1 k))), (6, .int (nI (pm_bc S 2 k))), (7, .int (nI (pm_bc S 0 k))), (8, .int (nI k))]) hx hb dL_areFrames_181 hl (by decide) rfl (fun ls hl => ?_)
            refine lv_iload hx hb dL_areFrames_183 (lv_at hl 5 rfl) ?_
            refine lv_if_eq (tgt := 192) hx hb dL_areFrames_185 (by decide) (fun _ => ?_) (fun c214 => (c214 (by decide)).elim)
            refine lv_iload hx hb dL_areFrames_192 (lv_at hl 3 rfl) ?_
            refine kx_if_eq (tgt := 201) hx hb (by omega) dL_areFrames_194 (by decide) (fun c215 => ?_) (fun c215 => by exfalso; omega)
            refine lv_iload hx hb dL_areFrames_201 (lv_at hl 4 rfl) ?_
            refine vp_callSi (W.runS (As := [.int (nI (pm_tk (S 4 k)))]) (rest := []) ⟨hx, hb, hml, hown, hts⟩ (k_L_ones l (pm_tk (S 4 k)) (by omega)) (va_cwS 1 hts gL_areFrames_L_ones rfl rfl rfl hd_L_ones ⟨Nat.le_of_ble_eq_true rfl, Nat.le_of_ble_eq_true rfl⟩) ⟨pm_no_blind, pm_no_pre⟩ rfl rfl hl.1 rfl (lv_room (Nat.le_of_ble_eq_true rfl)) dL_areFrames_203 ⟨Nat.le_of_ble_eq_true rfl, Nat.le_of_ble_eq_true rfl⟩) (fun r216 h217 => ?_)
            obtain rfl : r216 = nI (pm_tc (S 4 k)) := h217
            have : pm_tc (S 4 k) < 4 := pm_pc4 _
            refine lv_aload_n hx hb dL_areFrames_206 rfl (lv_at hl 6 rfl) ?_
            refine lv_bipush (v := nI 11) hx hb dL_areFrames_207 (by decide) ?_
            have hPc : va_P D vwCl (pm_cl y L S Bs pi kn Gs sv U) H := pq_kept hP0 hS
            refine vp_callSi (W.runV (As := [.int (nI 11)]) (rest := [.int (nI (pm_tc (S 4 k)))]) ⟨hx, hb, hml, hown, hts⟩ (k_X3_count l D y L S Bs pi kn Gs sv U Bs Gs (nI 11) hI.1) (cwV 1 hts gL_areFrames_X3_count rfl rfl rfl hd_X3_count ⟨Nat.le_of_ble_eq_true rfl, Nat.le_of_ble_eq_true rfl⟩) ⟨pm_ron_blind, va_recv hK hPc (ci := 3) (q0 := 0) rfl rfl, pm_ron_pre hPc hK hN⟩ rfl rfl hl.1 rfl (lv_room (Nat.le_of_ble_eq_true rfl)) dL_areFrames_209 ⟨Nat.le_of_ble_eq_true rfl, Nat.le_of_ble_eq_true rfl⟩) (fun r218 h219 => ?_)
            obtain rfl : r218 = nI (S 9 0) := h219.trans (pq_co11)
            have := hI.1.set
            refine kx_icmp_ge (tgt := 219) hx hb (by omega) (by omega) dL_areFrames_212 (by decide) (fun c220 => by exfalso; omega) (fun c220 => ?_)
            refine lv_iconst (v := nI 3) hx hb dL_areFrames_215 (by decide) ?_
            refine lv_goto (tgt := 220) hx hb dL_areFrames_216 (by decide) ?_
            refine lv_istore (lv' := [(15, .int (nI 3)), (14, .int (nI 1)), (13, .int (nI 0)), (12, .int (nI (S 2 k))), (11, .int (nI (pm_ck (S 4 k)))), (10, .int (nI (pm_tk (S 4 k)))), (9, .int (nI 0)), (0, .ref (L 0 0)), (1, .ref aw), (2, .int (nI (pm_pf S k))), (3, .int (nI (pm_rl S k))), (4, .int (nI (pm_lm S k))), (5, .int (nI (pm_bc S 1 k))), (6, .int (nI (pm_bc S 2 k))), (7, .int (nI (pm_bc S 0 k))), (8, .int (nI k))]) hx hb dL_areFrames_220 hl (by decide) rfl (fun ls hl => ?_)
            refine lv_iload hx hb dL_areFrames_222 (lv_at hl 1 rfl) ?_
            refine lv_if_eq (tgt := 252) hx hb dL_areFrames_224 (by decide) (fun c221 => absurd c221 (by decide)) (fun _ => ?_)
            refine lv_aload_n hx hb dL_areFrames_227 rfl (lv_at hl 7 rfl) ?_
            refine lv_iload hx hb dL_areFrames_228 (lv_at hl 15 rfl) ?_
            have hPc : va_P D vwCl (pm_cl y L S Bs pi kn Gs sv U) H := pq_kept hP0 hS
            refine vp_callSi (W.runV (As := [.int (nI k)]) (rest := []) ⟨hx, hb, hml, hown, hts⟩ (k_X3_why l D y L S Bs pi kn Gs sv U Bs Gs (nI k) hI.1) (cwV 1 hts gL_areFrames_X3_why rfl rfl rfl hd_X3_why ⟨Nat.le_of_ble_eq_true rfl, Nat.le_of_ble_eq_true rfl⟩) ⟨pm_ro_blind, va_recv hK hPc (ci := 3) (q0 := 0) rfl rfl, pm_ro_pre hPc hK⟩ rfl rfl hl.1 rfl (lv_room (Nat.le_of_ble_eq_true rfl)) dL_areFrames_230 ⟨Nat.le_of_ble_eq_true rfl, Nat.le_of_ble_eq_true rfl⟩) (fun r222 h223 => ?_)
            obtain rfl : r222 = nI 3 := h223.trans (hw)
            refine lv_iload hx hb dL_areFrames_233 (lv_at hl 0 rfl) ?_
            refine lv_icmp_ne (tgt := 252) hx hb dL_areFrames_235 (by decide) (fun c224 => (c224 (by decide)).elim) (fun _ => ?_)
            refine lv_iload hx hb dL_areFrames_238 (lv_at hl 6 rfl) ?_
            refine lv_if_eq (tgt := 254) hx hb dL_areFrames_240 (by decide) (fun _ => ?_) (fun c225 => (c225 (by decide)).elim)
            refine lv_aload_n hx hb dL_areFrames_254 rfl (lv_at hl 8 rfl) ?_
            refine lv_iload hx hb dL_areFrames_255 (lv_at hl 6 rfl) ?_
            refine lv_dup2_11 hx hb dL_areFrames_257 rfl rfl ?_
            refine kx_iald (v := nI (pm_hm S 0 k)) hx hb hK hP 0 0 rfl rfl (by decide) (by decide) rfl dL_areFrames_258 ?_
            refine lv_iconst (v := nI 1) hx hb dL_areFrames_259 (by decide) ?_
            refine kx_iadd hx hb dL_areFrames_260 ?_
            refine kx_iast (ws' := [(aw, .inl (y 0, 4, .inl (pm_vn (fun j => pm_hm S j (k + 1)))))]) hx hb hK hP hD hS 0 0 rfl rfl (by decide) (by decide) (pq_how h0) rfl dL_areFrames_261 (fun H locs hP hD hS => ?_)
            refine lv_iload_n hx hb dL_areFrames_262 rfl (lv_at hl 9 rfl) ?_
            refine lv_iload hx hb dL_areFrames_263 (lv_at hl 6 rfl) ?_
            refine lv_iconst (v := nI 1) hx hb dL_areFrames_265 (by decide) ?_
            refine lv_icmp_ne (tgt := 280) hx hb dL_areFrames_266 (by decide) (fun _ => ?_) (fun c226 => absurd c226 (by decide))
            refine lv_iconst (v := nI 0) hx hb dL_areFrames_280 (by decide) ?_
            refine kx_iadd hx hb dL_areFrames_281 ?_
            refine lv_istore_n (lv' := [(2, .int (nI ((pm_pf S k) + 0))), (15, .int (nI 3)), (14, .int (nI 1)), (13, .int (nI 0)), (12, .int (nI (S 2 k))), (11, .int (nI (pm_ck (S 4 k)))), (10, .int (nI (pm_tk (S 4 k)))), (9, .int (nI 0)), (0, .ref (L 0 0)), (1, .ref aw), (3, .int (nI (pm_rl S k))), (4, .int (nI (pm_lm S k))), (5, .int (nI (pm_bc S 1 k))), (6, .int (nI (pm_bc S 2 k))), (7, .int (nI (pm_bc S 0 k))), (8, .int (nI k))]) hx hb dL_areFrames_282 rfl hl (by decide) rfl (fun ls hl => ?_)
            refine lv_iload hx hb dL_areFrames_283 (lv_at hl 3 rfl) ?_
            refine lv_if_ne (tgt := 292) hx hb dL_areFrames_285 (by decide) (fun c227 => (c227 (by decide)).elim) (fun _ => ?_)
            refine lv_iconst (v := nI 0) hx hb dL_areFrames_288 (by decide) ?_
            refine lv_goto (tgt := 307) hx hb dL_areFrames_289 (by decide) ?_
            refine lv_istore_n (lv' := [(3, .int (nI 0)), (2, .int (nI ((pm_pf S k) + 0))), (15, .int (nI 3)), (14, .int (nI 1)), (13, .int (nI 0)), (12, .int (nI (S 2 k))), (11, .int (nI (pm_ck (S 4 k)))), (10, .int (nI (pm_tk (S 4 k)))), (9, .int (nI 0)), (0, .ref (L 0 0)), (1, .ref aw), (4, .int (nI (pm_lm S k))), (5, .int (nI (pm_bc S 1 k))), (6, .int (nI (pm_bc S 2 k))), (7, .int (nI (pm_bc S 0 k))), (8, .int (nI k))]) hx hb dL_areFrames_307 rfl hl (by decide) rfl (fun ls hl => ?_)
            refine lv_iload_n hx hb dL_areFrames_308 rfl (lv_at hl 0 rfl) ?_
            refine lv_iload hx hb dL_areFrames_309 (lv_at hl 11 rfl) ?_
            refine kx_icmp_le (tgt := 318) hx hb (by decide) (by omega) dL_areFrames_311 (by decide) (fun c228 => ?_) (fun c228 => by exfalso; omega)
            refine lv_iload hx hb dL_areFrames_318 (lv_at hl 11 rfl) ?_
            refine lv_istore (lv' := [(4, .int (nI (pm_lm S k))), (3, .int (nI 0)), (2, .int (nI ((pm_pf S k) + 0))), (15, .int (nI 3)), (14, .int (nI 1)), (13, .int (nI 0)), (12, .int (nI (S 2 k))), (11, .int (nI (pm_ck (S 4 k)))), (10, .int (nI (pm_tk (S 4 k)))), (9, .int (nI 0)), (0, .ref (L 0 0)), (1, .ref aw), (5, .int (nI (pm_bc S 1 k))), (6, .int (nI (pm_bc S 2 k))), (7, .int (nI (pm_bc S 0 k))), (8, .int (nI k))]) hx hb dL_areFrames_320 hl (by decide) rfl (fun ls hl => ?_)
            refine lv_iload hx hb dL_areFrames_322 (lv_at hl 8 rfl) ?_
            refine lv_iload hx hb dL_areFrames_324 (lv_at hl 7 rfl) ?_
            refine kx_iadd hx hb dL_areFrames_326 ?_
            refine kx_if_ne (tgt := 334) hx hb (by omega) dL_areFrames_327 (by decide) (fun c229 => ?_) (fun c229 => by exfalso; omega)
            refine lv_iconst (v := nI 0) hx hb dL_areFrames_334 (by decide) ?_
            refine lv_istore (lv' := [(16, .int (nI 0)), (4, .int (nI (pm_lm S k))), (3, .int (nI 0)), (2, .int (nI ((pm_pf S k) + 0))), (15, .int (nI 3)), (14, .int (nI 1)), (13, .int (nI 0)), (12, .int (nI (S 2 k))), (11, .int (nI (pm_ck (S 4 k)))), (10, .int (nI (pm_tk (S 4 k)))), (9, .int (nI 0)), (0, .ref (L 0 0)), (1, .ref aw), (5, .int (nI (pm_bc S 1 k))), (6, .int (nI (pm_bc S 2 k))), (7, .int (nI (pm_bc S 0 k))), (8, .int (nI k))]) hx hb dL_areFrames_335 hl (by decide) rfl (fun ls hl => ?_)
            refine lv_iload hx hb dL_areFrames_337 (lv_at hl 10 rfl) ?_
            refine lv_if_ne (tgt := 393) hx hb dL_areFrames_339 (by decide) (fun c230 => (c230 (by decide)).elim) (fun _ => ?_)
            refine lv_iload hx hb dL_areFrames_342 (lv_at hl 8 rfl) ?_
            refine vp_callSi (W.runS (As := [.int (nI (pm_ck (S 4 k)))]) (rest := []) ⟨hx, hb, hml, hown, hts⟩ (k_L_ones l (pm_ck (S 4 k)) (by omega)) (va_cwS 1 hts gL_areFrames_L_ones rfl rfl rfl hd_L_ones ⟨Nat.le_of_ble_eq_true rfl, Nat.le_of_ble_eq_true rfl⟩) ⟨pm_no_blind, pm_no_pre⟩ rfl rfl hl.1 rfl (lv_room (Nat.le_of_ble_eq_true rfl)) dL_areFrames_344 ⟨Nat.le_of_ble_eq_true rfl, Nat.le_of_ble_eq_true rfl⟩) (fun r231 h232 => ?_)
            obtain rfl : r231 = nI (pm_cc (S 4 k)) := h232
            have : pm_cc (S 4 k) < 4 := pm_pc4 _
            refine lv_iconst (v := nI 1) hx hb dL_areFrames_347 (by decide) ?_
            refine kx_icmp_gt (tgt := 389) hx hb (by omega) (by decide) dL_areFrames_348 (by decide) (fun c233 => by exfalso; omega) (fun c233 => ?_)
            refine lv_iload hx hb dL_areFrames_351 (lv_at hl 8 rfl) ?_
            refine kx_if_ne (tgt := 393) hx hb (by omega) dL_areFrames_353 (by decide) (fun c234 => by exfalso; omega) (fun c234 => ?_)
            refine lv_iload hx hb dL_areFrames_356 (lv_at hl 4 rfl) ?_
            refine lv_iconst (v := nI 3) hx hb dL_areFrames_358 (by decide) ?_
            refine lv_icmp_ne (tgt := 393) hx hb dL_areFrames_359 (by decide) (fun c235 => (c235 (by decide)).elim) (fun _ => ?_)
            refine lv_iload hx hb dL_areFrames_362 (lv_at hl 0 rfl) ?_
            refine lv_if_eq (tgt := 379) hx hb dL_areFrames_364 (by decide) (fun _ => ?_) (fun c236 => (c236 (by decide)).elim)
            refine lv_iconst (v := nI 0) hx hb dL_areFrames_379 (by decide) ?_
            refine lv_aload_n hx hb dL_areFrames_380 rfl (lv_at hl 11 rfl) ?_
            refine lv_bipush (v := nI 14) hx hb dL_areFrames_381 (by decide) ?_
            have hPc : va_P D vwCl (pm_cl y L S Bs pi kn Gs sv U) H := pq_kept hP0 hS
            refine vp_callSi (W.runV (As := [.int (nI 14)]) (rest := [.int (nI 0)]) ⟨hx, hb, hml, hown, hts⟩ (k_X3_count l D y L S Bs pi kn Gs sv U Bs Gs (nI 14) hI.1) (cwV 1 hts gL_areFrames_X3_count rfl rfl rfl hd_X3_count ⟨Nat.le_of_ble_eq_true rfl, Nat.le_of_ble_eq_true rfl⟩) ⟨pm_ron_blind, va_recv hK hPc (ci := 3) (q0 := 0) rfl rfl, pm_ron_pre hPc hK hN⟩ rfl rfl hl.1 rfl (lv_room (Nat.le_of_ble_eq_true rfl)) dL_areFrames_383 ⟨Nat.le_of_ble_eq_true rfl, Nat.le_of_ble_eq_true rfl⟩) (fun r237 h238 => ?_)
            obtain rfl : r237 = nI (S 9 3) := h238.trans (pq_co14)
            have := hI.1.set
            refine kx_icmp_lt (tgt := 393) hx hb (by decide) (by omega) dL_areFrames_386 (by decide) (fun c239 => ?_) (fun c239 => by exfalso; omega)
            refine lv_iconst (v := nI 0) hx hb dL_areFrames_393 (by decide) ?_
            refine lv_istore (lv' := [(17, .int (nI 0)), (16, .int (nI 0)), (4, .int (nI (pm_lm S k))), (3, .int (nI 0)), (2, .int (nI ((pm_pf S k) + 0))), (15, .int (nI 3)), (14, .int (nI 1)), (13, .int (nI 0)), (12, .int (nI (S 2 k))), (11, .int (nI (pm_ck (S 4 k)))), (10, .int (nI (pm_tk (S 4 k)))), (9, .int (nI 0)), (0, .ref (L 0 0)), (1, .ref aw), (5, .int (nI (pm_bc S 1 k))), (6, .int (nI (pm_bc S 2 k))), (7, .int (nI (pm_bc S 0 k))), (8, .int (nI k))]) hx hb dL_areFrames_394 hl (by decide) rfl (fun ls hl => ?_)
            refine lv_iload hx hb dL_areFrames_396 (lv_at hl 14 rfl) ?_
            refine lv_iload hx hb dL_areFrames_398 (lv_at hl 5 rfl) ?_
            refine lv_if_ne (tgt := 407) hx hb dL_areFrames_400 (by decide) (fun _ => ?_) (fun c240 => absurd c240 (by decide))
            refine lv_iconst (v := nI 0) hx hb dL_areFrames_407 (by decide) ?_
            refine kx_iadd hx hb dL_areFrames_408 ?_
            refine lv_istore (lv' := [(5, .int (nI ((pm_bc S 1 k) + 0))), (17, .int (nI 0)), (16, .int (nI 0)), (4, .int (nI (pm_lm S k))), (3, .int (nI 0)), (2, .int (nI ((pm_pf S k) + 0))), (15, .int (nI 3)), (14, .int (nI 1)), (13, .int (nI 0)), (12, .int (nI (S 2 k))), (11, .int (nI (pm_ck (S 4 k)))), (10, .int (nI (pm_tk (S 4 k)))), (9, .int (nI 0)), (0, .ref (L 0 0)), (1, .ref aw), (6, .int (nI (pm_bc S 2 k))), (7, .int (nI (pm_bc S 0 k))), (8, .int (nI k))]) hx hb dL_areFrames_409 hl (by decide) rfl (fun ls hl => ?_)
            refine lv_iload hx hb dL_areFrames_411 (lv_at hl 15 rfl) ?_
            refine lv_iload hx hb dL_areFrames_413 (lv_at hl 1 rfl) ?_
            refine lv_if_eq (tgt := 422) hx hb dL_areFrames_415 (by decide) (fun _ => ?_) (fun c241 => (c241 (by decide)).elim)
            refine lv_iconst (v := nI 0) hx hb dL_areFrames_422 (by decide) ?_
            refine kx_iadd hx hb dL_areFrames_423 ?_
            refine lv_istore (lv' := [(6, .int (nI ((pm_bc S 2 k) + 0))), (5, .int (nI ((pm_bc S 1 k) + 0))), (17, .int (nI 0)), (16, .int (nI 0)), (4, .int (nI (pm_lm S k))), (3, .int (nI 0)), (2, .int (nI ((pm_pf S k) + 0))), (15, .int (nI 3)), (14, .int (nI 1)), (13, .int (nI 0)), (12, .int (nI (S 2 k))), (11, .int (nI (pm_ck (S 4 k)))), (10, .int (nI (pm_tk (S 4 k)))), (9, .int (nI 0)), (0, .ref (L 0 0)), (1, .ref aw), (7, .int (nI (pm_bc S 0 k))), (8, .int (nI k))]) hx hb dL_areFrames_424 hl (by decide) rfl (fun ls hl => ?_)
            refine lv_iload hx hb dL_areFrames_426 (lv_at hl 16 rfl) ?_
            refine lv_iload hx hb dL_areFrames_428 (lv_at hl 13 rfl) ?_
            refine lv_if_ne (tgt := 447) hx hb dL_areFrames_430 (by decide) (fun c242 => (c242 (by decide)).elim) (fun _ => ?_)
            refine lv_iload hx hb dL_areFrames_433 (lv_at hl 7 rfl) ?_
            refine lv_if_eq (tgt := 447) hx hb dL_areFrames_435 (by decide) (fun c243 => absurd c243 (by decide)) (fun _ => ?_)
            refine lv_iload hx hb dL_areFrames_438 (lv_at hl 2 rfl) ?_
            refine lv_if_ne (tgt := 447) hx hb dL_areFrames_440 (by decide) (fun c244 => (c244 (by decide)).elim) (fun _ => ?_)
            refine lv_iconst (v := nI 1) hx hb dL_areFrames_443 (by decide) ?_
            refine lv_goto (tgt := 448) hx hb dL_areFrames_444 (by decide) ?_
            refine kx_iadd hx hb dL_areFrames_448 ?_
            refine lv_istore (lv' := [(7, .int (nI ((pm_bc S 0 k) + 1))), (6, .int (nI ((pm_bc S 2 k) + 0))), (5, .int (nI ((pm_bc S 1 k) + 0))), (17, .int (nI 0)), (16, .int (nI 0)), (4, .int (nI (pm_lm S k))), (3, .int (nI 0)), (2, .int (nI ((pm_pf S k) + 0))), (15, .int (nI 3)), (14, .int (nI 1)), (13, .int (nI 0)), (12, .int (nI (S 2 k))), (11, .int (nI (pm_ck (S 4 k)))), (10, .int (nI (pm_tk (S 4 k)))), (9, .int (nI 0)), (0, .ref (L 0 0)), (1, .ref aw), (8, .int (nI k))]) hx hb dL_areFrames_449 hl (by decide) rfl (fun ls hl => ?_)
            refine kx_iinc (a := k) (lv' := [(8, .int (nI (k + 1))), (7, .int (nI ((pm_bc S 0 k) + 1))), (6, .int (nI ((pm_bc S 2 k) + 0))), (5, .int (nI ((pm_bc S 1 k) + 0))), (17, .int (nI 0)), (16, .int (nI 0)), (4, .int (nI (pm_lm S k))), (3, .int (nI 0)), (2, .int (nI ((pm_pf S k) + 0))), (15, .int (nI 3)), (14, .int (nI 1)), (13, .int (nI 0)), (12, .int (nI (S 2 k))), (11, .int (nI (pm_ck (S 4 k)))), (10, .int (nI (pm_tk (S 4 k)))), (9, .int (nI 0)), (0, .ref (L 0 0)), (1, .ref aw)]) hx hb dL_areFrames_451 hl (k := 17) rfl (by decide) rfl (fun ls hl => ?_)
            refine lv_goto (tgt := 23) hx hb dL_areFrames_454 (by decide) ?_
            have q245 : (nI (pm_pf S (k + 1)) : Int32) = nI ((pm_pf S k) + 0) := (congrArg nI (pm_pf_n (by omega)))
            have q246 : (nI (pm_rl S (k + 1)) : Int32) = nI 0 := (congrArg nI hrl)
            have q247 : (nI (pm_lm S (k + 1)) : Int32) = nI (pm_lm S k) := (congrArg nI (by rw [pq_lm hrl]; split <;> omega))
            have q248 : (nI (pm_bc S 1 (k + 1)) : Int32) = nI ((pm_bc S 1 k) + 0) := (congrArg nI (pq_bcs h0 ha 1))
            have q249 : (nI (pm_bc S 2 (k + 1)) : Int32) = nI ((pm_bc S 2 k) + 0) := (congrArg nI (pq_bcs h0 ha 2))
            have q250 : (nI (pm_bc S 0 (k + 1)) : Int32) = nI ((pm_bc S 0 k) + 1) := (congrArg nI (pq_bcs h0 ha 0))
            exact ih3 (k + 1) ls H locs hP hD hS (by omega) (by omega) (by rw [q245, q246, q247, q248, q249, q250]; exact lv_sub hl [16, 17, 8, 7, 6, 3, 2, 1, 0] rfl) 
          · skip
            refine lv_aload_n hx hb dL_areFrames_30 rfl (lv_at hl 0 rfl) ?_
            refine lv_iload hx hb dL_areFrames_31 (lv_at hl 8 rfl) ?_
            refine lv_iconst (v := nI 0) hx hb dL_areFrames_33 (by decide) ?_
            have hPc : va_P D vwCl (pm_cl y L S Bs pi kn Gs sv U) H := pq_kept hP0 hS
            refine vp_callSi (W.runV (As := [.int (nI k), .int (nI 0)]) (rest := []) ⟨hx, hb, hml, hown, hts⟩ (k_X3_of l D y L S Bs pi kn Gs sv U Bs Gs (nI k) (nI 0) hI.1) (cwV 2 hts gL_areFrames_X3_of rfl rfl rfl hd_X3_of ⟨Nat.le_of_ble_eq_true rfl, Nat.le_of_ble_eq_true rfl⟩) ⟨pm_ro_blind, va_recv hK hPc (ci := 3) (q0 := 0) rfl rfl, pm_ro_pre hPc hK⟩ rfl rfl hl.1 rfl (lv_room (Nat.le_of_ble_eq_true rfl)) dL_areFrames_34 ⟨Nat.le_of_ble_eq_true rfl, Nat.le_of_ble_eq_true rfl⟩) (fun r251 h252 => ?_)
            obtain rfl : r251 = nI 0 := h252.trans ((pq_of0 (by omega)).trans (congrArg nI h0))
            refine lv_istore (lv' := [(9, .int (nI 0)), (0, .ref (L 0 0)), (1, .ref aw), (2, .int (nI (pm_pf S k))), (3, .int (nI (pm_rl S k))), (4, .int (nI (pm_lm S k))), (5, .int (nI (pm_bc S 1 k))), (6, .int (nI (pm_bc S 2 k))), (7, .int (nI (pm_bc S 0 k))), (8, .int (nI k))]) hx hb dL_areFrames_37 hl (by decide) rfl (fun ls hl => ?_)
            refine lv_aload_n hx hb dL_areFrames_39 rfl (lv_at hl 1 rfl) ?_
            refine lv_iload hx hb dL_areFrames_40 (lv_at hl 9 rfl) ?_
            refine lv_iconst (v := nI 1) hx hb dL_areFrames_42 (by decide) ?_
            have hPc : va_P D vwCl (pm_cl y L S Bs pi kn Gs sv U) H := pq_kept hP0 hS
            refine vp_callSi (W.runV (As := [.int (nI k), .int (nI 1)]) (rest := []) ⟨hx, hb, hml, hown, hts⟩ (k_X3_of l D y L S Bs pi kn Gs sv U Bs Gs (nI k) (nI 1) hI.1) (cwV 2 hts gL_areFrames_X3_of rfl rfl rfl hd_X3_of ⟨Nat.le_of_ble_eq_true rfl, Nat.le_of_ble_eq_true rfl⟩) ⟨pm_ro_blind, va_recv hK hPc (ci := 3) (q0 := 0) rfl rfl, pm_ro_pre hPc hK⟩ rfl rfl hl.1 rfl (lv_room (Nat.le_of_ble_eq_true rfl)) dL_areFrames_43 ⟨Nat.le_of_ble_eq_true rfl, Nat.le_of_ble_eq_true rfl⟩) (fun r253 h254 => ?_)
            obtain rfl : r253 = nI (pm_tk (S 4 k)) := h254.trans (pq_of1 (by omega))
            have := pm_tk8 (S 4 k)
            refine lv_istore (lv' := [(10, .int (nI (pm_tk (S 4 k)))), (9, .int (nI 0)), (0, .ref (L 0 0)), (1, .ref aw), (2, .int (nI (pm_pf S k))), (3, .int (nI (pm_rl S k))), (4, .int (nI (pm_lm S k))), (5, .int (nI (pm_bc S 1 k))), (6, .int (nI (pm_bc S 2 k))), (7, .int (nI (pm_bc S 0 k))), (8, .int (nI k))]) hx hb dL_areFrames_46 hl (by decide) rfl (fun ls hl => ?_)
            refine lv_aload_n hx hb dL_areFrames_48 rfl (lv_at hl 2 rfl) ?_
            refine lv_iload hx hb dL_areFrames_49 (lv_at hl 10 rfl) ?_
            refine lv_iconst (v := nI 2) hx hb dL_areFrames_51 (by decide) ?_
            have hPc : va_P D vwCl (pm_cl y L S Bs pi kn Gs sv U) H := pq_kept hP0 hS
            refine vp_callSi (W.runV (As := [.int (nI k), .int (nI 2)]) (rest := []) ⟨hx, hb, hml, hown, hts⟩ (k_X3_of l D y L S Bs pi kn Gs sv U Bs Gs (nI k) (nI 2) hI.1) (cwV 2 hts gL_areFrames_X3_of rfl rfl rfl hd_X3_of ⟨Nat.le_of_ble_eq_true rfl, Nat.le_of_ble_eq_true rfl⟩) ⟨pm_ro_blind, va_recv hK hPc (ci := 3) (q0 := 0) rfl rfl, pm_ro_pre hPc hK⟩ rfl rfl hl.1 rfl (lv_room (Nat.le_of_ble_eq_true rfl)) dL_areFrames_52 ⟨Nat.le_of_ble_eq_true rfl, Nat.le_of_ble_eq_true rfl⟩) (fun r255 h256 => ?_)
            obtain rfl : r255 = nI (pm_ck (S 4 k)) := h256.trans (pq_of2 (by omega))
            have := pm_ck8 (S 4 k)
            refine lv_istore (lv' := [(11, .int (nI (pm_ck (S 4 k)))), (10, .int (nI (pm_tk (S 4 k)))), (9, .int (nI 0)), (0, .ref (L 0 0)), (1, .ref aw), (2, .int (nI (pm_pf S k))), (3, .int (nI (pm_rl S k))), (4, .int (nI (pm_lm S k))), (5, .int (nI (pm_bc S 1 k))), (6, .int (nI (pm_bc S 2 k))), (7, .int (nI (pm_bc S 0 k))), (8, .int (nI k))]) hx hb dL_areFrames_55 hl (by decide) rfl (fun ls hl => ?_)
            refine lv_aload_n hx hb dL_areFrames_57 rfl (lv_at hl 3 rfl) ?_
            refine lv_iload hx hb dL_areFrames_58 (lv_at hl 11 rfl) ?_
            refine lv_iconst (v := nI 4) hx hb dL_areFrames_60 (by decide) ?_
            have hPc : va_P D vwCl (pm_cl y L S Bs pi kn Gs sv U) H := pq_kept hP0 hS
            refine vp_callSi (W.runV (As := [.int (nI k), .int (nI 4)]) (rest := []) ⟨hx, hb, hml, hown, hts⟩ (k_X3_of l D y L S Bs pi kn Gs sv U Bs Gs (nI k) (nI 4) hI.1) (cwV 2 hts gL_areFrames_X3_of rfl rfl rfl hd_X3_of ⟨Nat.le_of_ble_eq_true rfl, Nat.le_of_ble_eq_true rfl⟩) ⟨pm_ro_blind, va_recv hK hPc (ci := 3) (q0 := 0) rfl rfl, pm_ro_pre hPc hK⟩ rfl rfl hl.1 rfl (lv_room (Nat.le_of_ble_eq_true rfl)) dL_areFrames_61 ⟨Nat.le_of_ble_eq_true rfl, Nat.le_of_ble_eq_true rfl⟩) (fun r257 h258 => ?_)
            obtain rfl : r257 = nI (S 2 k) := h258.trans (pq_of4 (by omega))
            have := hI.1.size k (by omega)
            refine lv_istore (lv' := [(12, .int (nI (S 2 k))), (11, .int (nI (pm_ck (S 4 k)))), (10, .int (nI (pm_tk (S 4 k)))), (9, .int (nI 0)), (0, .ref (L 0 0)), (1, .ref aw), (2, .int (nI (pm_pf S k))), (3, .int (nI (pm_rl S k))), (4, .int (nI (pm_lm S k))), (5, .int (nI (pm_bc S 1 k))), (6, .int (nI (pm_bc S 2 k))), (7, .int (nI (pm_bc S 0 k))), (8, .int (nI k))]) hx hb dL_areFrames_64 hl (by decide) rfl (fun ls hl => ?_)
            refine lv_iload hx hb dL_areFrames_66 (lv_at hl 3 rfl) ?_
            refine lv_iconst (v := nI 1) hx hb dL_areFrames_68 (by decide) ?_
            refine lv_icmp_eq (tgt := 78) hx hb dL_areFrames_69 (by decide) (fun c259 => absurd c259 (by decide)) (fun _ => ?_)
            refine lv_iload hx hb dL_areFrames_72 (lv_at hl 3 rfl) ?_
            refine lv_iconst (v := nI 3) hx hb dL_areFrames_74 (by decide) ?_
            refine lv_icmp_ne (tgt := 82) hx hb dL_areFrames_75 (by decide) (fun _ => ?_) (fun c260 => absurd c260 (by decide))
            refine lv_iconst (v := nI 0) hx hb dL_areFrames_82 (by decide) ?_
            refine lv_istore (lv' := [(13, .int (nI 0)), (12, .int (nI (S 2 k))), (11, .int (nI (pm_ck (S 4 k)))), (10, .int (nI (pm_tk (S 4 k)))), (9, .int (nI 0)), (0, .ref (L 0 0)), (1, .ref aw), (2, .int (nI (pm_pf S k))), (3, .int (nI (pm_rl S k))), (4, .int (nI (pm_lm S k))), (5, .int (nI (pm_bc S 1 k))), (6, .int (nI (pm_bc S 2 k))), (7, .int (nI (pm_bc S 0 k))), (8, .int (nI k))]) hx hb dL_areFrames_83 hl (by decide) rfl (fun ls hl => ?_)
            refine lv_iload hx hb dL_areFrames_85 (lv_at hl 4 rfl) ?_
            refine lv_if_lt (tgt := 180) hx hb dL_areFrames_87 (by decide) (fun c261 => absurd c261 (by decide)) (fun _ => ?_)
            refine lv_iload hx hb dL_areFrames_90 (lv_at hl 4 rfl) ?_
            refine lv_iconst (v := nI 4) hx hb dL_areFrames_92 (by decide) ?_
            refine lv_icmp_ge (tgt := 180) hx hb dL_areFrames_93 (by decide) (fun c262 => absurd c262 (by decide)) (fun _ => ?_)
            refine lv_iload hx hb dL_areFrames_96 (lv_at hl 3 rfl) ?_
            refine lv_iload hx hb dL_areFrames_98 (lv_at hl 2 rfl) ?_
            refine lv_iand hx hb dL_areFrames_100 ?_
            refine lv_topi (fun x263 e264 => ?_)
            obtain rfl : x263 = nI 0 := e264.trans (pq_and (hI.1.okm k hk))
            refine lv_if_ne (tgt := 180) hx hb dL_areFrames_101 (by decide) (fun c265 => (c265 (by decide)).elim) (fun _ => ?_)
            refine lv_iload hx hb dL_areFrames_104 (lv_at hl 4 rfl) ?_
            refine lv_if_eq (tgt := 117) hx hb dL_areFrames_106 (by decide) (fun _ => ?_) (fun c266 => (c266 (by decide)).elim)
            refine lv_iload hx hb dL_areFrames_117 (lv_at hl 0 rfl) ?_
            refine lv_if_eq (tgt := 161) hx hb dL_areFrames_119 (by decide) (fun _ => ?_) (fun c267 => (c267 (by decide)).elim)
            refine lv_iload hx hb dL_areFrames_161 (lv_at hl 1 rfl) ?_
            refine kx_if_ne (tgt := 180) hx hb (by omega) dL_areFrames_163 (by decide) (fun c268 => by exfalso; omega) (fun c268 => ?_)
            refine lv_aload_n hx hb dL_areFrames_166 rfl (lv_at hl 5 rfl) ?_
            refine lv_iload hx hb dL_areFrames_167 (lv_at hl 13 rfl) ?_
            refine lv_iconst (v := nI 3) hx hb dL_areFrames_169 (by decide) ?_
            have hPc : va_P D vwCl (pm_cl y L S Bs pi kn Gs sv U) H := pq_kept hP0 hS
            refine vp_callSi (W.runV (As := [.int (nI k), .int (nI 3)]) (rest := []) ⟨hx, hb, hml, hown, hts⟩ (k_X3_of l D y L S Bs pi kn Gs sv U Bs Gs (nI k) (nI 3) hI.1) (cwV 2 hts gL_areFrames_X3_of rfl rfl rfl hd_X3_of ⟨Nat.le_of_ble_eq_true rfl, Nat.le_of_ble_eq_true rfl⟩) ⟨pm_ro_blind, va_recv hK hPc (ci := 3) (q0 := 0) rfl rfl, pm_ro_pre hPc hK⟩ rfl rfl hl.1 rfl (lv_room (Nat.le_of_ble_eq_true rfl)) dL_areFrames_170 ⟨Nat.le_of_ble_eq_true rfl, Nat.le_of_ble_eq_true rfl⟩) (fun r269 h270 => ?_)
            obtain rfl : r269 = nI (S 1 k) := h270.trans (pq_of3 (by omega))
            have := hI.1.dull k (by omega)
            have := hI.1.rnd
            refine kx_if_lt (tgt := 180) hx hb (by omega) dL_areFrames_173 (by decide) ?_
            refine lv_iconst (v := nI 1) hx hb dL_areFrames_176 (by decide) ?_
            refine lv_goto (tgt := 181) hx hb dL_areFrames_177 (by decide) ?_
            refine lv_istore (lv' := [(14, .int (nI 1)), (13, .int (nI 0)), (12, .int (nI (S 2 k))), (11, .int (nI (pm_ck (S 4 k)))), (10, .int (nI (pm_tk (S 4 k)))), (9, .int (nI 0)), (0, .ref (L 0 0)), (1, .ref aw), (2, .int (nI (pm_pf S k))), (3, .int (nI (pm_rl S k))), (4, .int (nI (pm_lm S k))), (5, .int (nI (pm_bc S 1 k))), (6, .int (nI (pm_bc S 2 k))), (7, .int (nI (pm_bc S 0 k))), (8, .int (nI k))]) hx hb dL_areFrames_181 hl (by decide) rfl (fun ls hl => ?_)
            refine lv_iload hx hb dL_areFrames_183 (lv_at hl 5 rfl) ?_
            refine lv_if_eq (tgt := 192) hx hb dL_areFrames_185 (by decide) (fun _ => ?_) (fun c271 => (c271 (by decide)).elim)
            refine lv_iload hx hb dL_areFrames_192 (lv_at hl 3 rfl) ?_
            refine kx_if_eq (tgt := 201) hx hb (by omega) dL_areFrames_194 (by decide) (fun c272 => ?_) (fun c272 => by exfalso; omega)
            refine lv_iload hx hb dL_areFrames_201 (lv_at hl 4 rfl) ?_
            refine vp_callSi (W.runS (As := [.int (nI (pm_tk (S 4 k)))]) (rest := []) ⟨hx, hb, hml, hown, hts⟩ (k_L_ones l (pm_tk (S 4 k)) (by omega)) (va_cwS 1 hts gL_areFrames_L_ones rfl rfl rfl hd_L_ones ⟨Nat.le_of_ble_eq_true rfl, Nat.le_of_ble_eq_true rfl⟩) ⟨pm_no_blind, pm_no_pre⟩ rfl rfl hl.1 rfl (lv_room (Nat.le_of_ble_eq_true rfl)) dL_areFrames_203 ⟨Nat.le_of_ble_eq_true rfl, Nat.le_of_ble_eq_true rfl⟩) (fun r273 h274 => ?_)
            obtain rfl : r273 = nI (pm_tc (S 4 k)) := h274
            have : pm_tc (S 4 k) < 4 := pm_pc4 _
            refine lv_aload_n hx hb dL_areFrames_206 rfl (lv_at hl 6 rfl) ?_
            refine lv_bipush (v := nI 11) hx hb dL_areFrames_207 (by decide) ?_
            have hPc : va_P D vwCl (pm_cl y L S Bs pi kn Gs sv U) H := pq_kept hP0 hS
            refine vp_callSi (W.runV (As := [.int (nI 11)]) (rest := [.int (nI (pm_tc (S 4 k)))]) ⟨hx, hb, hml, hown, hts⟩ (k_X3_count l D y L S Bs pi kn Gs sv U Bs Gs (nI 11) hI.1) (cwV 1 hts gL_areFrames_X3_count rfl rfl rfl hd_X3_count ⟨Nat.le_of_ble_eq_true rfl, Nat.le_of_ble_eq_true rfl⟩) ⟨pm_ron_blind, va_recv hK hPc (ci := 3) (q0 := 0) rfl rfl, pm_ron_pre hPc hK hN⟩ rfl rfl hl.1 rfl (lv_room (Nat.le_of_ble_eq_true rfl)) dL_areFrames_209 ⟨Nat.le_of_ble_eq_true rfl, Nat.le_of_ble_eq_true rfl⟩) (fun r275 h276 => ?_)
            obtain rfl : r275 = nI (S 9 0) := h276.trans (pq_co11)
            have := hI.1.set
            refine kx_icmp_ge (tgt := 219) hx hb (by omega) (by omega) dL_areFrames_212 (by decide) (fun c277 => by exfalso; omega) (fun c277 => ?_)
            refine lv_iconst (v := nI 3) hx hb dL_areFrames_215 (by decide) ?_
            refine lv_goto (tgt := 220) hx hb dL_areFrames_216 (by decide) ?_
            refine lv_istore (lv' := [(15, .int (nI 3)), (14, .int (nI 1)), (13, .int (nI 0)), (12, .int (nI (S 2 k))), (11, .int (nI (pm_ck (S 4 k)))), (10, .int (nI (pm_tk (S 4 k)))), (9, .int (nI 0)), (0, .ref (L 0 0)), (1, .ref aw), (2, .int (nI (pm_pf S k))), (3, .int (nI (pm_rl S k))), (4, .int (nI (pm_lm S k))), (5, .int (nI (pm_bc S 1 k))), (6, .int (nI (pm_bc S 2 k))), (7, .int (nI (pm_bc S 0 k))), (8, .int (nI k))]) hx hb dL_areFrames_220 hl (by decide) rfl (fun ls hl => ?_)
            refine lv_iload hx hb dL_areFrames_222 (lv_at hl 1 rfl) ?_
            refine lv_if_eq (tgt := 252) hx hb dL_areFrames_224 (by decide) (fun c278 => absurd c278 (by decide)) (fun _ => ?_)
            refine lv_aload_n hx hb dL_areFrames_227 rfl (lv_at hl 7 rfl) ?_
            refine lv_iload hx hb dL_areFrames_228 (lv_at hl 15 rfl) ?_
            have hPc : va_P D vwCl (pm_cl y L S Bs pi kn Gs sv U) H := pq_kept hP0 hS
            refine vp_callSi (W.runV (As := [.int (nI k)]) (rest := []) ⟨hx, hb, hml, hown, hts⟩ (k_X3_why l D y L S Bs pi kn Gs sv U Bs Gs (nI k) hI.1) (cwV 1 hts gL_areFrames_X3_why rfl rfl rfl hd_X3_why ⟨Nat.le_of_ble_eq_true rfl, Nat.le_of_ble_eq_true rfl⟩) ⟨pm_ro_blind, va_recv hK hPc (ci := 3) (q0 := 0) rfl rfl, pm_ro_pre hPc hK⟩ rfl rfl hl.1 rfl (lv_room (Nat.le_of_ble_eq_true rfl)) dL_areFrames_230 ⟨Nat.le_of_ble_eq_true rfl, Nat.le_of_ble_eq_true rfl⟩) (fun r279 h280 => ?_)
            obtain rfl : r279 = nI 3 := h280.trans (hw)
            refine lv_iload hx hb dL_areFrames_233 (lv_at hl 0 rfl) ?_
            refine lv_icmp_ne (tgt := 252) hx hb dL_areFrames_235 (by decide) (fun c281 => (c281 (by decide)).elim) (fun _ => ?_)
            refine lv_iload hx hb dL_areFrames_238 (lv_at hl 6 rfl) ?_
            refine lv_if_eq (tgt := 254) hx hb dL_areFrames_240 (by decide) (fun _ => ?_) (fun c282 => (c282 (by decide)).elim)
            refine lv_aload_n hx hb dL_areFrames_254 rfl (lv_at hl 8 rfl) ?_
            refine lv_iload hx hb dL_areFrames_255 (lv_at hl 6 rfl) ?_
            refine lv_dup2_11 hx hb dL_areFrames_257 rfl rfl ?_
            refine kx_iald (v := nI (pm_hm S 0 k)) hx hb hK hP 0 0 rfl rfl (by decide) (by decide) rfl dL_areFrames_258 ?_
            refine lv_iconst (v := nI 1) hx hb dL_areFrames_259 (by decide) ?_
            refine kx_iadd hx hb dL_areFrames_260 ?_
            refine kx_iast (ws' := [(aw, .inl (y 0, 4, .inl (pm_vn (fun j => pm_hm S j (k + 1)))))]) hx hb hK hP hD hS 0 0 rfl rfl (by decide) (by decide) (pq_how h0) rfl dL_areFrames_261 (fun H locs hP hD hS => ?_)
            refine lv_iload_n hx hb dL_areFrames_262 rfl (lv_at hl 9 rfl) ?_
            refine lv_iload hx hb dL_areFrames_263 (lv_at hl 6 rfl) ?_
            refine lv_iconst (v := nI 1) hx hb dL_areFrames_265 (by decide) ?_
            refine lv_icmp_ne (tgt := 280) hx hb dL_areFrames_266 (by decide) (fun _ => ?_) (fun c283 => absurd c283 (by decide))
            refine lv_iconst (v := nI 0) hx hb dL_areFrames_280 (by decide) ?_
            refine kx_iadd hx hb dL_areFrames_281 ?_
            refine lv_istore_n (lv' := [(2, .int (nI ((pm_pf S k) + 0))), (15, .int (nI 3)), (14, .int (nI 1)), (13, .int (nI 0)), (12, .int (nI (S 2 k))), (11, .int (nI (pm_ck (S 4 k)))), (10, .int (nI (pm_tk (S 4 k)))), (9, .int (nI 0)), (0, .ref (L 0 0)), (1, .ref aw), (3, .int (nI (pm_rl S k))), (4, .int (nI (pm_lm S k))), (5, .int (nI (pm_bc S 1 k))), (6, .int (nI (pm_bc S 2 k))), (7, .int (nI (pm_bc S 0 k))), (8, .int (nI k))]) hx hb dL_areFrames_282 rfl hl (by decide) rfl (fun ls hl => ?_)
            refine lv_iload hx hb dL_areFrames_283 (lv_at hl 3 rfl) ?_
            refine lv_if_ne (tgt := 292) hx hb dL_areFrames_285 (by decide) (fun c284 => (c284 (by decide)).elim) (fun _ => ?_)
            refine lv_iconst (v := nI 0) hx hb dL_areFrames_288 (by decide) ?_
            refine lv_goto (tgt := 307) hx hb dL_areFrames_289 (by decide) ?_
            refine lv_istore_n (lv' := [(3, .int (nI 0)), (2, .int (nI ((pm_pf S k) + 0))), (15, .int (nI 3)), (14, .int (nI 1)), (13, .int (nI 0)), (12, .int (nI (S 2 k))), (11, .int (nI (pm_ck (S 4 k)))), (10, .int (nI (pm_tk (S 4 k)))), (9, .int (nI 0)), (0, .ref (L 0 0)), (1, .ref aw), (4, .int (nI (pm_lm S k))), (5, .int (nI (pm_bc S 1 k))), (6, .int (nI (pm_bc S 2 k))), (7, .int (nI (pm_bc S 0 k))), (8, .int (nI k))]) hx hb dL_areFrames_307 rfl hl (by decide) rfl (fun ls hl => ?_)
            refine lv_iload_n hx hb dL_areFrames_308 rfl (lv_at hl 0 rfl) ?_
            refine lv_iload hx hb dL_areFrames_309 (lv_at hl 11 rfl) ?_
            refine kx_icmp_le (tgt := 318) hx hb (by decide) (by omega) dL_areFrames_311 (by decide) (fun c285 => ?_) (fun c285 => by exfalso; omega)
            refine lv_iload hx hb dL_areFrames_318 (lv_at hl 11 rfl) ?_
            refine lv_istore (lv' := [(4, .int (nI (pm_lm S k))), (3, .int (nI 0)), (2, .int (nI ((pm_pf S k) + 0))), (15, .int (nI 3)), (14, .int (nI 1)), (13, .int (nI 0)), (12, .int (nI (S 2 k))), (11, .int (nI (pm_ck (S 4 k)))), (10, .int (nI (pm_tk (S 4 k)))), (9, .int (nI 0)), (0, .ref (L 0 0)), (1, .ref aw), (5, .int (nI (pm_bc S 1 k))), (6, .int (nI (pm_bc S 2 k))), (7, .int (nI (pm_bc S 0 k))), (8, .int (nI k))]) hx hb dL_areFrames_320 hl (by decide) rfl (fun ls hl => ?_)
            refine lv_iload hx hb dL_areFrames_322 (lv_at hl 8 rfl) ?_
            refine lv_iload hx hb dL_areFrames_324 (lv_at hl 7 rfl) ?_
            refine kx_iadd hx hb dL_areFrames_326 ?_
            refine kx_if_ne (tgt := 334) hx hb (by omega) dL_areFrames_327 (by decide) (fun c286 => by exfalso; omega) (fun c286 => ?_)
            refine lv_iconst (v := nI 1) hx hb dL_areFrames_330 (by decide) ?_
            refine lv_goto (tgt := 335) hx hb dL_areFrames_331 (by decide) ?_
            refine lv_istore (lv' := [(16, .int (nI 1)), (4, .int (nI (pm_lm S k))), (3, .int (nI 0)), (2, .int (nI ((pm_pf S k) + 0))), (15, .int (nI 3)), (14, .int (nI 1)), (13, .int (nI 0)), (12, .int (nI (S 2 k))), (11, .int (nI (pm_ck (S 4 k)))), (10, .int (nI (pm_tk (S 4 k)))), (9, .int (nI 0)), (0, .ref (L 0 0)), (1, .ref aw), (5, .int (nI (pm_bc S 1 k))), (6, .int (nI (pm_bc S 2 k))), (7, .int (nI (pm_bc S 0 k))), (8, .int (nI k))]) hx hb dL_areFrames_335 hl (by decide) rfl (fun ls hl => ?_)
            refine lv_iload hx hb dL_areFrames_337 (lv_at hl 10 rfl) ?_
            refine lv_if_ne (tgt := 393) hx hb dL_areFrames_339 (by decide) (fun c287 => (c287 (by decide)).elim) (fun _ => ?_)
            refine lv_iload hx hb dL_areFrames_342 (lv_at hl 8 rfl) ?_
            refine vp_callSi (W.runS (As := [.int (nI (pm_ck (S 4 k)))]) (rest := []) ⟨hx, hb, hml, hown, hts⟩ (k_L_ones l (pm_ck (S 4 k)) (by omega)) (va_cwS 1 hts gL_areFrames_L_ones rfl rfl rfl hd_L_ones ⟨Nat.le_of_ble_eq_true rfl, Nat.le_of_ble_eq_true rfl⟩) ⟨pm_no_blind, pm_no_pre⟩ rfl rfl hl.1 rfl (lv_room (Nat.le_of_ble_eq_true rfl)) dL_areFrames_344 ⟨Nat.le_of_ble_eq_true rfl, Nat.le_of_ble_eq_true rfl⟩) (fun r288 h289 => ?_)
            obtain rfl : r288 = nI (pm_cc (S 4 k)) := h289
            have : pm_cc (S 4 k) < 4 := pm_pc4 _
            refine lv_iconst (v := nI 1) hx hb dL_areFrames_347 (by decide) ?_
            refine kx_icmp_gt (tgt := 389) hx hb (by omega) (by decide) dL_areFrames_348 (by decide) (fun c290 => by exfalso; omega) (fun c290 => ?_)
            refine lv_iload hx hb dL_areFrames_351 (lv_at hl 8 rfl) ?_
            refine kx_if_ne (tgt := 393) hx hb (by omega) dL_areFrames_353 (by decide) (fun c291 => by exfalso; omega) (fun c291 => ?_)
            refine lv_iload hx hb dL_areFrames_356 (lv_at hl 4 rfl) ?_
            refine lv_iconst (v := nI 3) hx hb dL_areFrames_358 (by decide) ?_
            refine lv_icmp_ne (tgt := 393) hx hb dL_areFrames_359 (by decide) (fun c292 => (c292 (by decide)).elim) (fun _ => ?_)
            refine lv_iload hx hb dL_areFrames_362 (lv_at hl 0 rfl) ?_
            refine lv_if_eq (tgt := 379) hx hb dL_areFrames_364 (by decide) (fun c293 => absurd c293 (by decide)) (fun _ => ?_)
            refine lv_aload_n hx hb dL_areFrames_367 rfl (lv_at hl 11 rfl) ?_
            refine lv_iload hx hb dL_areFrames_368 (lv_at hl 16 rfl) ?_
            refine lv_iconst (v := nI 3) hx hb dL_areFrames_370 (by decide) ?_
            have hPc : va_P D vwCl (pm_cl y L S Bs pi kn Gs sv U) H := pq_kept hP0 hS
            refine vp_callSi (W.runV (As := [.int (nI k), .int (nI 3)]) (rest := []) ⟨hx, hb, hml, hown, hts⟩ (k_X3_of l D y L S Bs pi kn Gs sv U Bs Gs (nI k) (nI 3) hI.1) (cwV 2 hts gL_areFrames_X3_of rfl rfl rfl hd_X3_of ⟨Nat.le_of_ble_eq_true rfl, Nat.le_of_ble_eq_true rfl⟩) ⟨pm_ro_blind, va_recv hK hPc (ci := 3) (q0 := 0) rfl rfl, pm_ro_pre hPc hK⟩ rfl rfl hl.1 rfl (lv_room (Nat.le_of_ble_eq_true rfl)) dL_areFrames_371 ⟨Nat.le_of_ble_eq_true rfl, Nat.le_of_ble_eq_true rfl⟩) (fun r294 h295 => ?_)
            obtain rfl : r294 = nI (S 1 k) := h295.trans (pq_of3 (by omega))
            have := hI.1.dull k (by omega)
            have := hI.1.rnd
            refine lv_iconst (v := nI 1) hx hb dL_areFrames_374 (by decide) ?_
            refine kx_iadd hx hb dL_areFrames_375 ?_
            refine lv_goto (tgt := 380) hx hb dL_areFrames_376 (by decide) ?_
            refine lv_aload_n hx hb dL_areFrames_380 rfl (lv_at hl 11 rfl) ?_
            refine lv_bipush (v := nI 14) hx hb dL_areFrames_381 (by decide) ?_
            have hPc : va_P D vwCl (pm_cl y L S Bs pi kn Gs sv U) H := pq_kept hP0 hS
            refine vp_callSi (W.runV (As := [.int (nI 14)]) (rest := [.int (nI ((S 1 k) + 1))]) ⟨hx, hb, hml, hown, hts⟩ (k_X3_count l D y L S Bs pi kn Gs sv U Bs Gs (nI 14) hI.1) (cwV 1 hts gL_areFrames_X3_count rfl rfl rfl hd_X3_count ⟨Nat.le_of_ble_eq_true rfl, Nat.le_of_ble_eq_true rfl⟩) ⟨pm_ron_blind, va_recv hK hPc (ci := 3) (q0 := 0) rfl rfl, pm_ron_pre hPc hK hN⟩ rfl rfl hl.1 rfl (lv_room (Nat.le_of_ble_eq_true rfl)) dL_areFrames_383 ⟨Nat.le_of_ble_eq_true rfl, Nat.le_of_ble_eq_true rfl⟩) (fun r296 h297 => ?_)
            obtain rfl : r296 = nI (S 9 3) := h297.trans (pq_co14)
            have := hI.1.set
            refine kx_icmp_lt (tgt := 393) hx hb (by omega) (by omega) dL_areFrames_386 (by decide) (fun c298 => by exfalso; omega) (fun c298 => ?_)
            refine lv_iconst (v := nI 1) hx hb dL_areFrames_389 (by decide) ?_
            refine lv_goto (tgt := 394) hx hb dL_areFrames_390 (by decide) ?_
            refine lv_istore (lv' := [(17, .int (nI 1)), (16, .int (nI 1)), (4, .int (nI (pm_lm S k))), (3, .int (nI 0)), (2, .int (nI ((pm_pf S k) + 0))), (15, .int (nI 3)), (14, .int (nI 1)), (13, .int (nI 0)), (12, .int (nI (S 2 k))), (11, .int (nI (pm_ck (S 4 k)))), (10, .int (nI (pm_tk (S 4 k)))), (9, .int (nI 0)), (0, .ref (L 0 0)), (1, .ref aw), (5, .int (nI (pm_bc S 1 k))), (6, .int (nI (pm_bc S 2 k))), (7, .int (nI (pm_bc S 0 k))), (8, .int (nI k))]) hx hb dL_areFrames_394 hl (by decide) rfl (fun ls hl => ?_)
            refine lv_iload hx hb dL_areFrames_396 (lv_at hl 14 rfl) ?_
            refine lv_iload hx hb dL_areFrames_398 (lv_at hl 5 rfl) ?_
            refine lv_if_ne (tgt := 407) hx hb dL_areFrames_400 (by decide) (fun _ => ?_) (fun c299 => absurd c299 (by decide))
            refine lv_iconst (v := nI 0) hx hb dL_areFrames_407 (by decide) ?_
            refine kx_iadd hx hb dL_areFrames_408 ?_
            refine lv_istore (lv' := [(5, .int (nI ((pm_bc S 1 k) + 0))), (17, .int (nI 1)), (16, .int (nI 1)), (4, .int (nI (pm_lm S k))), (3, .int (nI 0)), (2, .int (nI ((pm_pf S k) + 0))), (15, .int (nI 3)), (14, .int (nI 1)), (13, .int (nI 0)), (12, .int (nI (S 2 k))), (11, .int (nI (pm_ck (S 4 k)))), (10, .int (nI (pm_tk (S 4 k)))), (9, .int (nI 0)), (0, .ref (L 0 0)), (1, .ref aw), (6, .int (nI (pm_bc S 2 k))), (7, .int (nI (pm_bc S 0 k))), (8, .int (nI k))]) hx hb dL_areFrames_409 hl (by decide) rfl (fun ls hl => ?_)
            refine lv_iload hx hb dL_areFrames_411 (lv_at hl 15 rfl) ?_
            refine lv_iload hx hb dL_areFrames_413 (lv_at hl 1 rfl) ?_
            refine lv_if_eq (tgt := 422) hx hb dL_areFrames_415 (by decide) (fun c300 => absurd c300 (by decide)) (fun _ => ?_)
            refine lv_iconst (v := nI 1) hx hb dL_areFrames_418 (by decide) ?_
            refine lv_goto (tgt := 423) hx hb dL_areFrames_419 (by decide) ?_
            refine kx_iadd hx hb dL_areFrames_423 ?_
            refine lv_istore (lv' := [(6, .int (nI ((pm_bc S 2 k) + 1))), (5, .int (nI ((pm_bc S 1 k) + 0))), (17, .int (nI 1)), (16, .int (nI 1)), (4, .int (nI (pm_lm S k))), (3, .int (nI 0)), (2, .int (nI ((pm_pf S k) + 0))), (15, .int (nI 3)), (14, .int (nI 1)), (13, .int (nI 0)), (12, .int (nI (S 2 k))), (11, .int (nI (pm_ck (S 4 k)))), (10, .int (nI (pm_tk (S 4 k)))), (9, .int (nI 0)), (0, .ref (L 0 0)), (1, .ref aw), (7, .int (nI (pm_bc S 0 k))), (8, .int (nI k))]) hx hb dL_areFrames_424 hl (by decide) rfl (fun ls hl => ?_)
            refine lv_iload hx hb dL_areFrames_426 (lv_at hl 16 rfl) ?_
            refine lv_iload hx hb dL_areFrames_428 (lv_at hl 13 rfl) ?_
            refine lv_if_ne (tgt := 447) hx hb dL_areFrames_430 (by decide) (fun c301 => (c301 (by decide)).elim) (fun _ => ?_)
            refine lv_iload hx hb dL_areFrames_433 (lv_at hl 7 rfl) ?_
            refine lv_if_eq (tgt := 447) hx hb dL_areFrames_435 (by decide) (fun c302 => absurd c302 (by decide)) (fun _ => ?_)
            refine lv_iload hx hb dL_areFrames_438 (lv_at hl 2 rfl) ?_
            refine lv_if_ne (tgt := 447) hx hb dL_areFrames_440 (by decide) (fun _ => ?_) (fun c303 => absurd c303 (by decide))
            refine lv_iconst (v := nI 0) hx hb dL_areFrames_447 (by decide) ?_
            refine kx_iadd hx hb dL_areFrames_448 ?_
            refine lv_istore (lv' := [(7, .int (nI ((pm_bc S 0 k) + 0))), (6, .int (nI ((pm_bc S 2 k) + 1))), (5, .int (nI ((pm_bc S 1 k) + 0))), (17, .int (nI 1)), (16, .int (nI 1)), (4, .int (nI (pm_lm S k))), (3, .int (nI 0)), (2, .int (nI ((pm_pf S k) + 0))), (15, .int (nI 3)), (14, .int (nI 1)), (13, .int (nI 0)), (12, .int (nI (S 2 k))), (11, .int (nI (pm_ck (S 4 k)))), (10, .int (nI (pm_tk (S 4 k)))), (9, .int (nI 0)), (0, .ref (L 0 0)), (1, .ref aw), (8, .int (nI k))]) hx hb dL_areFrames_449 hl (by decide) rfl (fun ls hl => ?_)
            refine kx_iinc (a := k) (lv' := [(8, .int (nI (k + 1))), (7, .int (nI ((pm_bc S 0 k) + 0))), (6, .int (nI ((pm_bc S 2 k) + 1))), (5, .int (nI ((pm_bc S 1 k) + 0))), (17, .int (nI 1)), (16, .int (nI 1)), (4, .int (nI (pm_lm S k))), (3, .int (nI 0)), (2, .int (nI ((pm_pf S k) + 0))), (15, .int (nI 3)), (14, .int (nI 1)), (13, .int (nI 0)), (12, .int (nI (S 2 k))), (11, .int (nI (pm_ck (S 4 k)))), (10, .int (nI (pm_tk (S 4 k)))), (9, .int (nI 0)), (0, .ref (L 0 0)), (1, .ref aw)]) hx hb dL_areFrames_451 hl (k := 17) rfl (by decide) rfl (fun ls hl => ?_)
            refine lv_goto (tgt := 23) hx hb dL_areFrames_454 (by decide) ?_
            have q304 : (nI (pm_pf S (k + 1)) : Int32) = nI ((pm_pf S k) + 0) := (congrArg nI (pm_pf_n (by omega)))
            have q305 : (nI (pm_rl S (k + 1)) : Int32) = nI 0 := (congrArg nI hrl)
            have q306 : (nI (pm_lm S (k + 1)) : Int32) = nI (pm_lm S k) := (congrArg nI (by rw [pq_lm hrl]; split <;> omega))
            have q307 : (nI (pm_bc S 1 (k + 1)) : Int32) = nI ((pm_bc S 1 k) + 0) := (congrArg nI (pq_bcs h0 ha 1))
            have q308 : (nI (pm_bc S 2 (k + 1)) : Int32) = nI ((pm_bc S 2 k) + 1) := (congrArg nI (pq_bcs h0 ha 2))
            have q309 : (nI (pm_bc S 0 (k + 1)) : Int32) = nI ((pm_bc S 0 k) + 0) := (congrArg nI (pq_bcs h0 ha 0))
            exact ih3 (k + 1) ls H locs hP hD hS (by omega) (by omega) (by rw [q304, q305, q306, q307, q308, q309]; exact lv_sub hl [16, 17, 8, 7, 6, 3, 2, 1, 0] rfl) 
          · skip
            refine lv_aload_n hx hb dL_areFrames_30 rfl (lv_at hl 0 rfl) ?_
            refine lv_iload hx hb dL_areFrames_31 (lv_at hl 8 rfl) ?_
            refine lv_iconst (v := nI 0) hx hb dL_areFrames_33 (by decide) ?_
            have hPc : va_P D vwCl (pm_cl y L S Bs pi kn Gs sv U) H := pq_kept hP0 hS
            refine vp_callSi (W.runV (As := [.int (nI k), .int (nI 0)]) (rest := []) ⟨hx, hb, hml, hown, hts⟩ (k_X3_of l D y L S Bs pi kn Gs sv U Bs Gs (nI k) (nI 0) hI.1) (cwV 2 hts gL_areFrames_X3_of rfl rfl rfl hd_X3_of ⟨Nat.le_of_ble_eq_true rfl, Nat.le_of_ble_eq_true rfl⟩) ⟨pm_ro_blind, va_recv hK hPc (ci := 3) (q0 := 0) rfl rfl, pm_ro_pre hPc hK⟩ rfl rfl hl.1 rfl (lv_room (Nat.le_of_ble_eq_true rfl)) dL_areFrames_34 ⟨Nat.le_of_ble_eq_true rfl, Nat.le_of_ble_eq_true rfl⟩) (fun r310 h311 => ?_)
            obtain rfl : r310 = nI 0 := h311.trans ((pq_of0 (by omega)).trans (congrArg nI h0))
            refine lv_istore (lv' := [(9, .int (nI 0)), (0, .ref (L 0 0)), (1, .ref aw), (2, .int (nI (pm_pf S k))), (3, .int (nI (pm_rl S k))), (4, .int (nI (pm_lm S k))), (5, .int (nI (pm_bc S 1 k))), (6, .int (nI (pm_bc S 2 k))), (7, .int (nI (pm_bc S 0 k))), (8, .int (nI k))]) hx hb dL_areFrames_37 hl (by decide) rfl (fun ls hl => ?_)
            refine lv_aload_n hx hb dL_areFrames_39 rfl (lv_at hl 1 rfl) ?_
            refine lv_iload hx hb dL_areFrames_40 (lv_at hl 9 rfl) ?_
            refine lv_iconst (v := nI 1) hx hb dL_areFrames_42 (by decide) ?_
            have hPc : va_P D vwCl (pm_cl y L S Bs pi kn Gs sv U) H := pq_kept hP0 hS
            refine vp_callSi (W.runV (As := [.int (nI k), .int (nI 1)]) (rest := []) ⟨hx, hb, hml, hown, hts⟩ (k_X3_of l D y L S Bs pi kn Gs sv U Bs Gs (nI k) (nI 1) hI.1) (cwV 2 hts gL_areFrames_X3_of rfl rfl rfl hd_X3_of ⟨Nat.le_of_ble_eq_true rfl, Nat.le_of_ble_eq_true rfl⟩) ⟨pm_ro_blind, va_recv hK hPc (ci := 3) (q0 := 0) rfl rfl, pm_ro_pre hPc hK⟩ rfl rfl hl.1 rfl (lv_room (Nat.le_of_ble_eq_true rfl)) dL_areFrames_43 ⟨Nat.le_of_ble_eq_true rfl, Nat.le_of_ble_eq_true rfl⟩) (fun r312 h313 => ?_)
            obtain rfl : r312 = nI (pm_tk (S 4 k)) := h313.trans (pq_of1 (by omega))
            have := pm_tk8 (S 4 k)
            refine lv_istore (lv' := [(10, .int (nI (pm_tk (S 4 k)))), (9, .int (nI 0)), (0, .ref (L 0 0)), (1, .ref aw), (2, .int (nI (pm_pf S k))), (3, .int (nI (pm_rl S k))), (4, .int (nI (pm_lm S k))), (5, .int (nI (pm_bc S 1 k))), (6, .int (nI (pm_bc S 2 k))), (7, .int (nI (pm_bc S 0 k))), (8, .int (nI k))]) hx hb dL_areFrames_46 hl (by decide) rfl (fun ls hl => ?_)
            refine lv_aload_n hx hb dL_areFrames_48 rfl (lv_at hl 2 rfl) ?_
            refine lv_iload hx hb dL_areFrames_49 (lv_at hl 10 rfl) ?_
            refine lv_iconst (v := nI 2) hx hb dL_areFrames_51 (by decide) ?_
            have hPc : va_P D vwCl (pm_cl y L S Bs pi kn Gs sv U) H := pq_kept hP0 hS
            refine vp_callSi (W.runV (As := [.int (nI k), .int (nI 2)]) (rest := []) ⟨hx, hb, hml, hown, hts⟩ (k_X3_of l D y L S Bs pi kn Gs sv U Bs Gs (nI k) (nI 2) hI.1) (cwV 2 hts gL_areFrames_X3_of rfl rfl rfl hd_X3_of ⟨Nat.le_of_ble_eq_true rfl, Nat.le_of_ble_eq_true rfl⟩) ⟨pm_ro_blind, va_recv hK hPc (ci := 3) (q0 := 0) rfl rfl, pm_ro_pre hPc hK⟩ rfl rfl hl.1 rfl (lv_room (Nat.le_of_ble_eq_true rfl)) dL_areFrames_52 ⟨Nat.le_of_ble_eq_true rfl, Nat.le_of_ble_eq_true rfl⟩) (fun r314 h315 => ?_)
            obtain rfl : r314 = nI (pm_ck (S 4 k)) := h315.trans (pq_of2 (by omega))
            have := pm_ck8 (S 4 k)
            refine lv_istore (lv' := [(11, .int (nI (pm_ck (S 4 k)))), (10, .int (nI (pm_tk (S 4 k)))), (9, .int (nI 0)), (0, .ref (L 0 0)), (1, .ref aw), (2, .int (nI (pm_pf S k))), (3, .int (nI (pm_rl S k))), (4, .int (nI (pm_lm S k))), (5, .int (nI (pm_bc S 1 k))), (6, .int (nI (pm_bc S 2 k))), (7, .int (nI (pm_bc S 0 k))), (8, .int (nI k))]) hx hb dL_areFrames_55 hl (by decide) rfl (fun ls hl => ?_)
            refine lv_aload_n hx hb dL_areFrames_57 rfl (lv_at hl 3 rfl) ?_
            refine lv_iload hx hb dL_areFrames_58 (lv_at hl 11 rfl) ?_
            refine lv_iconst (v := nI 4) hx hb dL_areFrames_60 (by decide) ?_
            have hPc : va_P D vwCl (pm_cl y L S Bs pi kn Gs sv U) H := pq_kept hP0 hS
            refine vp_callSi (W.runV (As := [.int (nI k), .int (nI 4)]) (rest := []) ⟨hx, hb, hml, hown, hts⟩ (k_X3_of l D y L S Bs pi kn Gs sv U Bs Gs (nI k) (nI 4) hI.1) (cwV 2 hts gL_areFrames_X3_of rfl rfl rfl hd_X3_of ⟨Nat.le_of_ble_eq_true rfl, Nat.le_of_ble_eq_true rfl⟩) ⟨pm_ro_blind, va_recv hK hPc (ci := 3) (q0 := 0) rfl rfl, pm_ro_pre hPc hK⟩ rfl rfl hl.1 rfl (lv_room (Nat.le_of_ble_eq_true rfl)) dL_areFrames_61 ⟨Nat.le_of_ble_eq_true rfl, Nat.le_of_ble_eq_true rfl⟩) (fun r316 h317 => ?_)
            obtain rfl : r316 = nI (S 2 k) := h317.trans (pq_of4 (by omega))
            have := hI.1.size k (by omega)
            refine lv_istore (lv' := [(12, .int (nI (S 2 k))), (11, .int (nI (pm_ck (S 4 k)))), (10, .int (nI (pm_tk (S 4 k)))), (9, .int (nI 0)), (0, .ref (L 0 0)), (1, .ref aw), (2, .int (nI (pm_pf S k))), (3, .int (nI (pm_rl S k))), (4, .int (nI (pm_lm S k))), (5, .int (nI (pm_bc S 1 k))), (6, .int (nI (pm_bc S 2 k))), (7, .int (nI (pm_bc S 0 k))), (8, .int (nI k))]) hx hb dL_areFrames_64 hl (by decide) rfl (fun ls hl => ?_)
            refine lv_iload hx hb dL_areFrames_66 (lv_at hl 3 rfl) ?_
            refine lv_iconst (v := nI 1) hx hb dL_areFrames_68 (by decide) ?_
            refine lv_icmp_eq (tgt := 78) hx hb dL_areFrames_69 (by decide) (fun c318 => absurd c318 (by decide)) (fun _ => ?_)
            refine lv_iload hx hb dL_areFrames_72 (lv_at hl 3 rfl) ?_
            refine lv_iconst (v := nI 3) hx hb dL_areFrames_74 (by decide) ?_
            refine lv_icmp_ne (tgt := 82) hx hb dL_areFrames_75 (by decide) (fun _ => ?_) (fun c319 => absurd c319 (by decide))
            refine lv_iconst (v := nI 0) hx hb dL_areFrames_82 (by decide) ?_
            refine lv_istore (lv' := [(13, .int (nI 0)), (12, .int (nI (S 2 k))), (11, .int (nI (pm_ck (S 4 k)))), (10, .int (nI (pm_tk (S 4 k)))), (9, .int (nI 0)), (0, .ref (L 0 0)), (1, .ref aw), (2, .int (nI (pm_pf S k))), (3, .int (nI (pm_rl S k))), (4, .int (nI (pm_lm S k))), (5, .int (nI (pm_bc S 1 k))), (6, .int (nI (pm_bc S 2 k))), (7, .int (nI (pm_bc S 0 k))), (8, .int (nI k))]) hx hb dL_areFrames_83 hl (by decide) rfl (fun ls hl => ?_)
            refine lv_iload hx hb dL_areFrames_85 (lv_at hl 4 rfl) ?_
            refine lv_if_lt (tgt := 180) hx hb dL_areFrames_87 (by decide) (fun c320 => absurd c320 (by decide)) (fun _ => ?_)
            refine lv_iload hx hb dL_areFrames_90 (lv_at hl 4 rfl) ?_
            refine lv_iconst (v := nI 4) hx hb dL_areFrames_92 (by decide) ?_
            refine lv_icmp_ge (tgt := 180) hx hb dL_areFrames_93 (by decide) (fun c321 => absurd c321 (by decide)) (fun _ => ?_)
            refine lv_iload hx hb dL_areFrames_96 (lv_at hl 3 rfl) ?_
            refine lv_iload hx hb dL_areFrames_98 (lv_at hl 2 rfl) ?_
            refine lv_iand hx hb dL_areFrames_100 ?_
            refine lv_topi (fun x322 e323 => ?_)
            obtain rfl : x322 = nI 0 := e323.trans (pq_and (hI.1.okm k hk))
            refine lv_if_ne (tgt := 180) hx hb dL_areFrames_101 (by decide) (fun c324 => (c324 (by decide)).elim) (fun _ => ?_)
            refine lv_iload hx hb dL_areFrames_104 (lv_at hl 4 rfl) ?_
            refine lv_if_eq (tgt := 117) hx hb dL_areFrames_106 (by decide) (fun _ => ?_) (fun c325 => (c325 (by decide)).elim)
            refine lv_iload hx hb dL_areFrames_117 (lv_at hl 0 rfl) ?_
            refine lv_if_eq (tgt := 161) hx hb dL_areFrames_119 (by decide) (fun _ => ?_) (fun c326 => (c326 (by decide)).elim)
            refine lv_iload hx hb dL_areFrames_161 (lv_at hl 1 rfl) ?_
            refine kx_if_ne (tgt := 180) hx hb (by omega) dL_areFrames_163 (by decide) (fun c327 => by exfalso; omega) (fun c327 => ?_)
            refine lv_aload_n hx hb dL_areFrames_166 rfl (lv_at hl 5 rfl) ?_
            refine lv_iload hx hb dL_areFrames_167 (lv_at hl 13 rfl) ?_
            refine lv_iconst (v := nI 3) hx hb dL_areFrames_169 (by decide) ?_
            have hPc : va_P D vwCl (pm_cl y L S Bs pi kn Gs sv U) H := pq_kept hP0 hS
            refine vp_callSi (W.runV (As := [.int (nI k), .int (nI 3)]) (rest := []) ⟨hx, hb, hml, hown, hts⟩ (k_X3_of l D y L S Bs pi kn Gs sv U Bs Gs (nI k) (nI 3) hI.1) (cwV 2 hts gL_areFrames_X3_of rfl rfl rfl hd_X3_of ⟨Nat.le_of_ble_eq_true rfl, Nat.le_of_ble_eq_true rfl⟩) ⟨pm_ro_blind, va_recv hK hPc (ci := 3) (q0 := 0) rfl rfl, pm_ro_pre hPc hK⟩ rfl rfl hl.1 rfl (lv_room (Nat.le_of_ble_eq_true rfl)) dL_areFrames_170 ⟨Nat.le_of_ble_eq_true rfl, Nat.le_of_ble_eq_true rfl⟩) (fun r328 h329 => ?_)
            obtain rfl : r328 = nI (S 1 k) := h329.trans (pq_of3 (by omega))
            have := hI.1.dull k (by omega)
            have := hI.1.rnd
            refine kx_if_lt (tgt := 180) hx hb (by omega) dL_areFrames_173 (by decide) ?_
            refine lv_iconst (v := nI 1) hx hb dL_areFrames_176 (by decide) ?_
            refine lv_goto (tgt := 181) hx hb dL_areFrames_177 (by decide) ?_
            refine lv_istore (lv' := [(14, .int (nI 1)), (13, .int (nI 0)), (12, .int (nI (S 2 k))), (11, .int (nI (pm_ck (S 4 k)))), (10, .int (nI (pm_tk (S 4 k)))), (9, .int (nI 0)), (0, .ref (L 0 0)), (1, .ref aw), (2, .int (nI (pm_pf S k))), (3, .int (nI (pm_rl S k))), (4, .int (nI (pm_lm S k))), (5, .int (nI (pm_bc S 1 k))), (6, .int (nI (pm_bc S 2 k))), (7, .int (nI (pm_bc S 0 k))), (8, .int (nI k))]) hx hb dL_areFrames_181 hl (by decide) rfl (fun ls hl => ?_)
            refine lv_iload hx hb dL_areFrames_183 (lv_at hl 5 rfl) ?_
            refine lv_if_eq (tgt := 192) hx hb dL_areFrames_185 (by decide) (fun _ => ?_) (fun c330 => (c330 (by decide)).elim)
            refine lv_iload hx hb dL_areFrames_192 (lv_at hl 3 rfl) ?_
            refine kx_if_eq (tgt := 201) hx hb (by omega) dL_areFrames_194 (by decide) (fun c331 => ?_) (fun c331 => by exfalso; omega)
            refine lv_iload hx hb dL_areFrames_201 (lv_at hl 4 rfl) ?_
            refine vp_callSi (W.runS (As := [.int (nI (pm_tk (S 4 k)))]) (rest := []) ⟨hx, hb, hml, hown, hts⟩ (k_L_ones l (pm_tk (S 4 k)) (by omega)) (va_cwS 1 hts gL_areFrames_L_ones rfl rfl rfl hd_L_ones ⟨Nat.le_of_ble_eq_true rfl, Nat.le_of_ble_eq_true rfl⟩) ⟨pm_no_blind, pm_no_pre⟩ rfl rfl hl.1 rfl (lv_room (Nat.le_of_ble_eq_true rfl)) dL_areFrames_203 ⟨Nat.le_of_ble_eq_true rfl, Nat.le_of_ble_eq_true rfl⟩) (fun r332 h333 => ?_)
            obtain rfl : r332 = nI (pm_tc (S 4 k)) := h333
            have : pm_tc (S 4 k) < 4 := pm_pc4 _
            refine lv_aload_n hx hb dL_areFrames_206 rfl (lv_at hl 6 rfl) ?_
            refine lv_bipush (v := nI 11) hx hb dL_areFrames_207 (by decide) ?_
            have hPc : va_P D vwCl (pm_cl y L S Bs pi kn Gs sv U) H := pq_kept hP0 hS
            refine vp_callSi (W.runV (As := [.int (nI 11)]) (rest := [.int (nI (pm_tc (S 4 k)))]) ⟨hx, hb, hml, hown, hts⟩ (k_X3_count l D y L S Bs pi kn Gs sv U Bs Gs (nI 11) hI.1) (cwV 1 hts gL_areFrames_X3_count rfl rfl rfl hd_X3_count ⟨Nat.le_of_ble_eq_true rfl, Nat.le_of_ble_eq_true rfl⟩) ⟨pm_ron_blind, va_recv hK hPc (ci := 3) (q0 := 0) rfl rfl, pm_ron_pre hPc hK hN⟩ rfl rfl hl.1 rfl (lv_room (Nat.le_of_ble_eq_true rfl)) dL_areFrames_209 ⟨Nat.le_of_ble_eq_true rfl, Nat.le_of_ble_eq_true rfl⟩) (fun r334 h335 => ?_)
            obtain rfl : r334 = nI (S 9 0) := h335.trans (pq_co11)
            have := hI.1.set
            refine kx_icmp_ge (tgt := 219) hx hb (by omega) (by omega) dL_areFrames_212 (by decide) (fun c336 => by exfalso; omega) (fun c336 => ?_)
            refine lv_iconst (v := nI 3) hx hb dL_areFrames_215 (by decide) ?_
            refine lv_goto (tgt := 220) hx hb dL_areFrames_216 (by decide) ?_
            refine lv_istore (lv' := [(15, .int (nI 3)), (14, .int (nI 1)), (13, .int (nI 0)), (12, .int (nI (S 2 k))), (11, .int (nI (pm_ck (S 4 k)))), (10, .int (nI (pm_tk (S 4 k)))), (9, .int (nI 0)), (0, .ref (L 0 0)), (1, .ref aw), (2, .int (nI (pm_pf S k))), (3, .int (nI (pm_rl S k))), (4, .int (nI (pm_lm S k))), (5, .int (nI (pm_bc S 1 k))), (6, .int (nI (pm_bc S 2 k))), (7, .int (nI (pm_bc S 0 k))), (8, .int (nI k))]) hx hb dL_areFrames_220 hl (by decide) rfl (fun ls hl => ?_)
            refine lv_iload hx hb dL_areFrames_222 (lv_at hl 1 rfl) ?_
            refine lv_if_eq (tgt := 252) hx hb dL_areFrames_224 (by decide) (fun c337 => absurd c337 (by decide)) (fun _ => ?_)
            refine lv_aload_n hx hb dL_areFrames_227 rfl (lv_at hl 7 rfl) ?_
            refine lv_iload hx hb dL_areFrames_228 (lv_at hl 15 rfl) ?_
            have hPc : va_P D vwCl (pm_cl y L S Bs pi kn Gs sv U) H := pq_kept hP0 hS
            refine vp_callSi (W.runV (As := [.int (nI k)]) (rest := []) ⟨hx, hb, hml, hown, hts⟩ (k_X3_why l D y L S Bs pi kn Gs sv U Bs Gs (nI k) hI.1) (cwV 1 hts gL_areFrames_X3_why rfl rfl rfl hd_X3_why ⟨Nat.le_of_ble_eq_true rfl, Nat.le_of_ble_eq_true rfl⟩) ⟨pm_ro_blind, va_recv hK hPc (ci := 3) (q0 := 0) rfl rfl, pm_ro_pre hPc hK⟩ rfl rfl hl.1 rfl (lv_room (Nat.le_of_ble_eq_true rfl)) dL_areFrames_230 ⟨Nat.le_of_ble_eq_true rfl, Nat.le_of_ble_eq_true rfl⟩) (fun r338 h339 => ?_)
            obtain rfl : r338 = nI 3 := h339.trans (hw)
            refine lv_iload hx hb dL_areFrames_233 (lv_at hl 0 rfl) ?_
            refine lv_icmp_ne (tgt := 252) hx hb dL_areFrames_235 (by decide) (fun c340 => (c340 (by decide)).elim) (fun _ => ?_)
            refine lv_iload hx hb dL_areFrames_238 (lv_at hl 6 rfl) ?_
            refine lv_if_eq (tgt := 254) hx hb dL_areFrames_240 (by decide) (fun _ => ?_) (fun c341 => (c341 (by decide)).elim)
            refine lv_aload_n hx hb dL_areFrames_254 rfl (lv_at hl 8 rfl) ?_
            refine lv_iload hx hb dL_areFrames_255 (lv_at hl 6 rfl) ?_
            refine lv_dup2_11 hx hb dL_areFrames_257 rfl rfl ?_
            refine kx_iald (v := nI (pm_hm S 0 k)) hx hb hK hP 0 0 rfl rfl (by decide) (by decide) rfl dL_areFrames_258 ?_
            refine lv_iconst (v := nI 1) hx hb dL_areFrames_259 (by decide) ?_
            refine kx_iadd hx hb dL_areFrames_260 ?_
            refine kx_iast (ws' := [(aw, .inl (y 0, 4, .inl (pm_vn (fun j => pm_hm S j (k + 1)))))]) hx hb hK hP hD hS 0 0 rfl rfl (by decide) (by decide) (pq_how h0) rfl dL_areFrames_261 (fun H locs hP hD hS => ?_)
            refine lv_iload_n hx hb dL_areFrames_262 rfl (lv_at hl 9 rfl) ?_
            refine lv_iload hx hb dL_areFrames_263 (lv_at hl 6 rfl) ?_
            refine lv_iconst (v := nI 1) hx hb dL_areFrames_265 (by decide) ?_
            refine lv_icmp_ne (tgt := 280) hx hb dL_areFrames_266 (by decide) (fun _ => ?_) (fun c342 => absurd c342 (by decide))
            refine lv_iconst (v := nI 0) hx hb dL_areFrames_280 (by decide) ?_
            refine kx_iadd hx hb dL_areFrames_281 ?_
            refine lv_istore_n (lv' := [(2, .int (nI ((pm_pf S k) + 0))), (15, .int (nI 3)), (14, .int (nI 1)), (13, .int (nI 0)), (12, .int (nI (S 2 k))), (11, .int (nI (pm_ck (S 4 k)))), (10, .int (nI (pm_tk (S 4 k)))), (9, .int (nI 0)), (0, .ref (L 0 0)), (1, .ref aw), (3, .int (nI (pm_rl S k))), (4, .int (nI (pm_lm S k))), (5, .int (nI (pm_bc S 1 k))), (6, .int (nI (pm_bc S 2 k))), (7, .int (nI (pm_bc S 0 k))), (8, .int (nI k))]) hx hb dL_areFrames_282 rfl hl (by decide) rfl (fun ls hl => ?_)
            refine lv_iload hx hb dL_areFrames_283 (lv_at hl 3 rfl) ?_
            refine lv_if_ne (tgt := 292) hx hb dL_areFrames_285 (by decide) (fun c343 => (c343 (by decide)).elim) (fun _ => ?_)
            refine lv_iconst (v := nI 0) hx hb dL_areFrames_288 (by decide) ?_
            refine lv_goto (tgt := 307) hx hb dL_areFrames_289 (by decide) ?_
            refine lv_istore_n (lv' := [(3, .int (nI 0)), (2, .int (nI ((pm_pf S k) + 0))), (15, .int (nI 3)), (14, .int (nI 1)), (13, .int (nI 0)), (12, .int (nI (S 2 k))), (11, .int (nI (pm_ck (S 4 k)))), (10, .int (nI (pm_tk (S 4 k)))), (9, .int (nI 0)), (0, .ref (L 0 0)), (1, .ref aw), (4, .int (nI (pm_lm S k))), (5, .int (nI (pm_bc S 1 k))), (6, .int (nI (pm_bc S 2 k))), (7, .int (nI (pm_bc S 0 k))), (8, .int (nI k))]) hx hb dL_areFrames_307 rfl hl (by decide) rfl (fun ls hl => ?_)
            refine lv_iload_n hx hb dL_areFrames_308 rfl (lv_at hl 0 rfl) ?_
            refine lv_iload hx hb dL_areFrames_309 (lv_at hl 11 rfl) ?_
            refine kx_icmp_le (tgt := 318) hx hb (by decide) (by omega) dL_areFrames_311 (by decide) (fun c344 => ?_) (fun c344 => by exfalso; omega)
            refine lv_iload hx hb dL_areFrames_318 (lv_at hl 11 rfl) ?_
            refine lv_istore (lv' := [(4, .int (nI (pm_lm S k))), (3, .int (nI 0)), (2, .int (nI ((pm_pf S k) + 0))), (15, .int (nI 3)), (14, .int (nI 1)), (13, .int (nI 0)), (12, .int (nI (S 2 k))), (11, .int (nI (pm_ck (S 4 k)))), (10, .int (nI (pm_tk (S 4 k)))), (9, .int (nI 0)), (0, .ref (L 0 0)), (1, .ref aw), (5, .int (nI (pm_bc S 1 k))), (6, .int (nI (pm_bc S 2 k))), (7, .int (nI (pm_bc S 0 k))), (8, .int (nI k))]) hx hb dL_areFrames_320 hl (by decide) rfl (fun ls hl => ?_)
            refine lv_iload hx hb dL_areFrames_322 (lv_at hl 8 rfl) ?_
            refine lv_iload hx hb dL_areFrames_324 (lv_at hl 7 rfl) ?_
            refine kx_iadd hx hb dL_areFrames_326 ?_
            refine kx_if_ne (tgt := 334) hx hb (by omega) dL_areFrames_327 (by decide) (fun c345 => by exfalso; omega) (fun c345 => ?_)
            refine lv_iconst (v := nI 1) hx hb dL_areFrames_330 (by decide) ?_
            refine lv_goto (tgt := 335) hx hb dL_areFrames_331 (by decide) ?_
            refine lv_istore (lv' := [(16, .int (nI 1)), (4, .int (nI (pm_lm S k))), (3, .int (nI 0)), (2, .int (nI ((pm_pf S k) + 0))), (15, .int (nI 3)), (14, .int (nI 1)), (13, .int (nI 0)), (12, .int (nI (S 2 k))), (11, .int (nI (pm_ck (S 4 k)))), (10, .int (nI (pm_tk (S 4 k)))), (9, .int (nI 0)), (0, .ref (L 0 0)), (1, .ref aw), (5, .int (nI (pm_bc S 1 k))), (6, .int (nI (pm_bc S 2 k))), (7, .int (nI (pm_bc S 0 k))), (8, .int (nI k))]) hx hb dL_areFrames_335 hl (by decide) rfl (fun ls hl => ?_)
            refine lv_iload hx hb dL_areFrames_337 (lv_at hl 10 rfl) ?_
            refine lv_if_ne (tgt := 393) hx hb dL_areFrames_339 (by decide) (fun c346 => (c346 (by decide)).elim) (fun _ => ?_)
            refine lv_iload hx hb dL_areFrames_342 (lv_at hl 8 rfl) ?_
            refine vp_callSi (W.runS (As := [.int (nI (pm_ck (S 4 k)))]) (rest := []) ⟨hx, hb, hml, hown, hts⟩ (k_L_ones l (pm_ck (S 4 k)) (by omega)) (va_cwS 1 hts gL_areFrames_L_ones rfl rfl rfl hd_L_ones ⟨Nat.le_of_ble_eq_true rfl, Nat.le_of_ble_eq_true rfl⟩) ⟨pm_no_blind, pm_no_pre⟩ rfl rfl hl.1 rfl (lv_room (Nat.le_of_ble_eq_true rfl)) dL_areFrames_344 ⟨Nat.le_of_ble_eq_true rfl, Nat.le_of_ble_eq_true rfl⟩) (fun r347 h348 => ?_)
            obtain rfl : r347 = nI (pm_cc (S 4 k)) := h348
            have : pm_cc (S 4 k) < 4 := pm_pc4 _
            refine lv_iconst (v := nI 1) hx hb dL_areFrames_347 (by decide) ?_
            refine kx_icmp_gt (tgt := 389) hx hb (by omega) (by decide) dL_areFrames_348 (by decide) (fun c349 => by exfalso; omega) (fun c349 => ?_)
            refine lv_iload hx hb dL_areFrames_351 (lv_at hl 8 rfl) ?_
            refine kx_if_ne (tgt := 393) hx hb (by omega) dL_areFrames_353 (by decide) (fun c350 => by exfalso; omega) (fun c350 => ?_)
            refine lv_iload hx hb dL_areFrames_356 (lv_at hl 4 rfl) ?_
            refine lv_iconst (v := nI 3) hx hb dL_areFrames_358 (by decide) ?_
            refine lv_icmp_ne (tgt := 393) hx hb dL_areFrames_359 (by decide) (fun c351 => (c351 (by decide)).elim) (fun _ => ?_)
            refine lv_iload hx hb dL_areFrames_362 (lv_at hl 0 rfl) ?_
            refine lv_if_eq (tgt := 379) hx hb dL_areFrames_364 (by decide) (fun c352 => absurd c352 (by decide)) (fun _ => ?_)
            refine lv_aload_n hx hb dL_areFrames_367 rfl (lv_at hl 11 rfl) ?_
            refine lv_iload hx hb dL_areFrames_368 (lv_at hl 16 rfl) ?_
            refine lv_iconst (v := nI 3) hx hb dL_areFrames_370 (by decide) ?_
            have hPc : va_P D vwCl (pm_cl y L S Bs pi kn Gs sv U) H := pq_kept hP0 hS
            refine vp_callSi (W.runV (As := [.int (nI k), .int (nI 3)]) (rest := []) ⟨hx, hb, hml, hown, hts⟩ (k_X3_of l D y L S Bs pi kn Gs sv U Bs Gs (nI k) (nI 3) hI.1) (cwV 2 hts gL_areFrames_X3_of rfl rfl rfl hd_X3_of ⟨Nat.le_of_ble_eq_true rfl, Nat.le_of_ble_eq_true rfl⟩) ⟨pm_ro_blind, va_recv hK hPc (ci := 3) (q0 := 0) rfl rfl, pm_ro_pre hPc hK⟩ rfl rfl hl.1 rfl (lv_room (Nat.le_of_ble_eq_true rfl)) dL_areFrames_371 ⟨Nat.le_of_ble_eq_true rfl, Nat.le_of_ble_eq_true rfl⟩) (fun r353 h354 => ?_)
            obtain rfl : r353 = nI (S 1 k) := h354.trans (pq_of3 (by omega))
            have := hI.1.dull k (by omega)
            have := hI.1.rnd
            refine lv_iconst (v := nI 1) hx hb dL_areFrames_374 (by decide) ?_
            refine kx_iadd hx hb dL_areFrames_375 ?_
            refine lv_goto (tgt := 380) hx hb dL_areFrames_376 (by decide) ?_
            refine lv_aload_n hx hb dL_areFrames_380 rfl (lv_at hl 11 rfl) ?_
            refine lv_bipush (v := nI 14) hx hb dL_areFrames_381 (by decide) ?_
            have hPc : va_P D vwCl (pm_cl y L S Bs pi kn Gs sv U) H := pq_kept hP0 hS
            refine vp_callSi (W.runV (As := [.int (nI 14)]) (rest := [.int (nI ((S 1 k) + 1))]) ⟨hx, hb, hml, hown, hts⟩ (k_X3_count l D y L S Bs pi kn Gs sv U Bs Gs (nI 14) hI.1) (cwV 1 hts gL_areFrames_X3_count rfl rfl rfl hd_X3_count ⟨Nat.le_of_ble_eq_true rfl, Nat.le_of_ble_eq_true rfl⟩) ⟨pm_ron_blind, va_recv hK hPc (ci := 3) (q0 := 0) rfl rfl, pm_ron_pre hPc hK hN⟩ rfl rfl hl.1 rfl (lv_room (Nat.le_of_ble_eq_true rfl)) dL_areFrames_383 ⟨Nat.le_of_ble_eq_true rfl, Nat.le_of_ble_eq_true rfl⟩) (fun r355 h356 => ?_)
            obtain rfl : r355 = nI (S 9 3) := h356.trans (pq_co14)
            have := hI.1.set
            refine kx_icmp_lt (tgt := 393) hx hb (by omega) (by omega) dL_areFrames_386 (by decide) (fun c357 => ?_) (fun c357 => by exfalso; omega)
            refine lv_iconst (v := nI 0) hx hb dL_areFrames_393 (by decide) ?_
            refine lv_istore (lv' := [(17, .int (nI 0)), (16, .int (nI 1)), (4, .int (nI (pm_lm S k))), (3, .int (nI 0)), (2, .int (nI ((pm_pf S k) + 0))), (15, .int (nI 3)), (14, .int (nI 1)), (13, .int (nI 0)), (12, .int (nI (S 2 k))), (11, .int (nI (pm_ck (S 4 k)))), (10, .int (nI (pm_tk (S 4 k)))), (9, .int (nI 0)), (0, .ref (L 0 0)), (1, .ref aw), (5, .int (nI (pm_bc S 1 k))), (6, .int (nI (pm_bc S 2 k))), (7, .int (nI (pm_bc S 0 k))), (8, .int (nI k))]) hx hb dL_areFrames_394 hl (by decide) rfl (fun ls hl => ?_)
            refine lv_iload hx hb dL_areFrames_396 (lv_at hl 14 rfl) ?_
            refine lv_iload hx hb dL_areFrames_398 (lv_at hl 5 rfl) ?_
            refine lv_if_ne (tgt := 407) hx hb dL_areFrames_400 (by decide) (fun _ => ?_) (fun c358 => absurd c358 (by decide))
            refine lv_iconst (v := nI 0) hx hb dL_areFrames_407 (by decide) ?_
            refine kx_iadd hx hb dL_areFrames_408 ?_
            refine lv_istore (lv' := [(5, .int (nI ((pm_bc S 1 k) + 0))), (17, .int (nI 0)), (16, .int (nI 1)), (4, .int (nI (pm_lm S k))), (3, .int (nI 0)), (2, .int (nI ((pm_pf S k) + 0))), (15, .int (nI 3)), (14, .int (nI 1)), (13, .int (nI 0)), (12, .int (nI (S 2 k))), (11, .int (nI (pm_ck (S 4 k)))), (10, .int (nI (pm_tk (S 4 k)))), (9, .int (nI 0)), (0, .ref (L 0 0)), (1, .ref aw), (6, .int (nI (pm_bc S 2 k))), (7, .int (nI (pm_bc S 0 k))), (8, .int (nI k))]) hx hb dL_areFrames_409 hl (by decide) rfl (fun ls hl => ?_)
            refine lv_iload hx hb dL_areFrames_411 (lv_at hl 15 rfl) ?_
            refine lv_iload hx hb dL_areFrames_413 (lv_at hl 1 rfl) ?_
            refine lv_if_eq (tgt := 422) hx hb dL_areFrames_415 (by decide) (fun _ => ?_) (fun c359 => (c359 (by decide)).elim)
            refine lv_iconst (v := nI 0) hx hb dL_areFrames_422 (by decide) ?_
            refine kx_iadd hx hb dL_areFrames_423 ?_
            refine lv_istore (lv' := [(6, .int (nI ((pm_bc S 2 k) + 0))), (5, .int (nI ((pm_bc S 1 k) + 0))), (17, .int (nI 0)), (16, .int (nI 1)), (4, .int (nI (pm_lm S k))), (3, .int (nI 0)), (2, .int (nI ((pm_pf S k) + 0))), (15, .int (nI 3)), (14, .int (nI 1)), (13, .int (nI 0)), (12, .int (nI (S 2 k))), (11, .int (nI (pm_ck (S 4 k)))), (10, .int (nI (pm_tk (S 4 k)))), (9, .int (nI 0)), (0, .ref (L 0 0)), (1, .ref aw), (7, .int (nI (pm_bc S 0 k))), (8, .int (nI k))]) hx hb dL_areFrames_424 hl (by decide) rfl (fun ls hl => ?_)
            refine lv_iload hx hb dL_areFrames_426 (lv_at hl 16 rfl) ?_
            refine lv_iload hx hb dL_areFrames_428 (lv_at hl 13 rfl) ?_
            refine lv_if_ne (tgt := 447) hx hb dL_areFrames_430 (by decide) (fun c360 => (c360 (by decide)).elim) (fun _ => ?_)
            refine lv_iload hx hb dL_areFrames_433 (lv_at hl 7 rfl) ?_
            refine lv_if_eq (tgt := 447) hx hb dL_areFrames_435 (by decide) (fun c361 => absurd c361 (by decide)) (fun _ => ?_)
            refine lv_iload hx hb dL_areFrames_438 (lv_at hl 2 rfl) ?_
            refine lv_if_ne (tgt := 447) hx hb dL_areFrames_440 (by decide) (fun c362 => (c362 (by decide)).elim) (fun _ => ?_)
            refine lv_iconst (v := nI 1) hx hb dL_areFrames_443 (by decide) ?_
            refine lv_goto (tgt := 448) hx hb dL_areFrames_444 (by decide) ?_
            refine kx_iadd hx hb dL_areFrames_448 ?_
            refine lv_istore (lv' := [(7, .int (nI ((pm_bc S 0 k) + 1))), (6, .int (nI ((pm_bc S 2 k) + 0))), (5, .int (nI ((pm_bc S 1 k) + 0))), (17, .int (nI 0)), (16, .int (nI 1)), (4, .int (nI (pm_lm S k))), (3, .int (nI 0)), (2, .int (nI ((pm_pf S k) + 0))), (15, .int (nI 3)), (14, .int (nI 1)), (13, .int (nI 0)), (12, .int (nI (S 2 k))), (11, .int (nI (pm_ck (S 4 k)))), (10, .int (nI (pm_tk (S 4 k)))), (9, .int (nI 0)), (0, .ref (L 0 0)), (1, .ref aw), (8, .int (nI k))]) hx hb dL_areFrames_449 hl (by decide) rfl (fun ls hl => ?_)
            refine kx_iinc (a := k) (lv' := [(8, .int (nI (k + 1))), (7, .int (nI ((pm_bc S 0 k) + 1))), (6, .int (nI ((pm_bc S 2 k) + 0))), (5, .int (nI ((pm_bc S 1 k) + 0))), (17, .int (nI 0)), (16, .int (nI 1)), (4, .int (nI (pm_lm S k))), (3, .int (nI 0)), (2, .int (nI ((pm_pf S k) + 0))), (15, .int (nI 3)), (14, .int (nI 1)), (13, .int (nI 0)), (12, .int (nI (S 2 k))), (11, .int (nI (pm_ck (S 4 k)))), (10, .int (nI (pm_tk (S 4 k)))), (9, .int (nI 0)), (0, .ref (L 0 0)), (1, .ref aw)]) hx hb dL_areFrames_451 hl (k := 17) rfl (by decide) rfl (fun ls hl => ?_)
            refine lv_goto (tgt := 23) hx hb dL_areFrames_454 (by decide) ?_
            have q363 : (nI (pm_pf S (k + 1)) : Int32) = nI ((pm_pf S k) + 0) := (congrArg nI (pm_pf_n (by omega)))
            have q364 : (nI (pm_rl S (k + 1)) : Int32) = nI 0 := (congrArg nI hrl)
            have q365 : (nI (pm_lm S (k + 1)) : Int32) = nI (pm_lm S k) := (congrArg nI (by rw [pq_lm hrl]; split <;> omega))
            have q366 : (nI (pm_bc S 1 (k + 1)) : Int32) = nI ((pm_bc S 1 k) + 0) := (congrArg nI (pq_bcs h0 ha 1))
            have q367 : (nI (pm_bc S 2 (k + 1)) : Int32) = nI ((pm_bc S 2 k) + 0) := (congrArg nI (pq_bcs h0 ha 2))
            have q368 : (nI (pm_bc S 0 (k + 1)) : Int32) = nI ((pm_bc S 0 k) + 1) := (congrArg nI (pq_bcs h0 ha 0))
            exact ih3 (k + 1) ls H locs hP hD hS (by omega) (by omega) (by rw [q363, q364, q365, q366, q367, q368]; exact lv_sub hl [16, 17, 8, 7, 6, 3, 2, 1, 0] rfl) 
        · obtain ⟨hm4, htk, hck, hw⟩ := pq_shut hI hk (by omega)
          by_cases h6 : k % 6 = 0
          · have hrl := pq_rl1 (S := S) (by omega) h6
            refine lv_aload_n hx hb dL_areFrames_30 rfl (lv_at hl 0 rfl) ?_
            refine lv_iload hx hb dL_areFrames_31 (lv_at hl 8 rfl) ?_
            refine lv_iconst (v := nI 0) hx hb dL_areFrames_33 (by decide) ?_
            have hPc : va_P D vwCl (pm_cl y L S Bs pi kn Gs sv U) H := pq_kept hP0 hS
            refine vp_callSi (W.runV (As := [.int (nI k), .int (nI 0)]) (rest := []) ⟨hx, hb, hml, hown, hts⟩ (k_X3_of l D y L S Bs pi kn Gs sv U Bs Gs (nI k) (nI 0) hI.1) (cwV 2 hts gL_areFrames_X3_of rfl rfl rfl hd_X3_of ⟨Nat.le_of_ble_eq_true rfl, Nat.le_of_ble_eq_true rfl⟩) ⟨pm_ro_blind, va_recv hK hPc (ci := 3) (q0 := 0) rfl rfl, pm_ro_pre hPc hK⟩ rfl rfl hl.1 rfl (lv_room (Nat.le_of_ble_eq_true rfl)) dL_areFrames_34 ⟨Nat.le_of_ble_eq_true rfl, Nat.le_of_ble_eq_true rfl⟩) (fun r369 h370 => ?_)
            obtain rfl : r369 = nI 1 := h370.trans ((pq_of0 (by omega)).trans (congrArg nI h0))
            refine lv_istore (lv' := [(9, .int (nI 1)), (0, .ref (L 0 0)), (1, .ref aw), (2, .int (nI (pm_pf S k))), (3, .int (nI (pm_rl S k))), (4, .int (nI (pm_lm S k))), (5, .int (nI (pm_bc S 1 k))), (6, .int (nI (pm_bc S 2 k))), (7, .int (nI (pm_bc S 0 k))), (8, .int (nI k))]) hx hb dL_areFrames_37 hl (by decide) rfl (fun ls hl => ?_)
            refine lv_aload_n hx hb dL_areFrames_39 rfl (lv_at hl 1 rfl) ?_
            refine lv_iload hx hb dL_areFrames_40 (lv_at hl 9 rfl) ?_
            refine lv_iconst (v := nI 1) hx hb dL_areFrames_42 (by decide) ?_
            have hPc : va_P D vwCl (pm_cl y L S Bs pi kn Gs sv U) H := pq_kept hP0 hS
            refine vp_callSi (W.runV (As := [.int (nI k), .int (nI 1)]) (rest := []) ⟨hx, hb, hml, hown, hts⟩ (k_X3_of l D y L S Bs pi kn Gs sv U Bs Gs (nI k) (nI 1) hI.1) (cwV 2 hts gL_areFrames_X3_of rfl rfl rfl hd_X3_of ⟨Nat.le_of_ble_eq_true rfl, Nat.le_of_ble_eq_true rfl⟩) ⟨pm_ro_blind, va_recv hK hPc (ci := 3) (q0 := 0) rfl rfl, pm_ro_pre hPc hK⟩ rfl rfl hl.1 rfl (lv_room (Nat.le_of_ble_eq_true rfl)) dL_areFrames_43 ⟨Nat.le_of_ble_eq_true rfl, Nat.le_of_ble_eq_true rfl⟩) (fun r371 h372 => ?_)
            obtain rfl : r371 = nI (pm_tk (S 4 k)) := h372.trans (pq_of1 (by omega))
            have := pm_tk8 (S 4 k)
            refine lv_istore (lv' := [(10, .int (nI (pm_tk (S 4 k)))), (9, .int (nI 1)), (0, .ref (L 0 0)), (1, .ref aw), (2, .int (nI (pm_pf S k))), (3, .int (nI (pm_rl S k))), (4, .int (nI (pm_lm S k))), (5, .int (nI (pm_bc S 1 k))), (6, .int (nI (pm_bc S 2 k))), (7, .int (nI (pm_bc S 0 k))), (8, .int (nI k))]) hx hb dL_areFrames_46 hl (by decide) rfl (fun ls hl => ?_)
            refine lv_aload_n hx hb dL_areFrames_48 rfl (lv_at hl 2 rfl) ?_
            refine lv_iload hx hb dL_areFrames_49 (lv_at hl 10 rfl) ?_
            refine lv_iconst (v := nI 2) hx hb dL_areFrames_51 (by decide) ?_
            have hPc : va_P D vwCl (pm_cl y L S Bs pi kn Gs sv U) H := pq_kept hP0 hS
            refine vp_callSi (W.runV (As := [.int (nI k), .int (nI 2)]) (rest := []) ⟨hx, hb, hml, hown, hts⟩ (k_X3_of l D y L S Bs pi kn Gs sv U Bs Gs (nI k) (nI 2) hI.1) (cwV 2 hts gL_areFrames_X3_of rfl rfl rfl hd_X3_of ⟨Nat.le_of_ble_eq_true rfl, Nat.le_of_ble_eq_true rfl⟩) ⟨pm_ro_blind, va_recv hK hPc (ci := 3) (q0 := 0) rfl rfl, pm_ro_pre hPc hK⟩ rfl rfl hl.1 rfl (lv_room (Nat.le_of_ble_eq_true rfl)) dL_areFrames_52 ⟨Nat.le_of_ble_eq_true rfl, Nat.le_of_ble_eq_true rfl⟩) (fun r373 h374 => ?_)
            obtain rfl : r373 = nI (pm_ck (S 4 k)) := h374.trans (pq_of2 (by omega))
            have := pm_ck8 (S 4 k)
            refine lv_istore (lv' := [(11, .int (nI (pm_ck (S 4 k)))), (10, .int (nI (pm_tk (S 4 k)))), (9, .int (nI 1)), (0, .ref (L 0 0)), (1, .ref aw), (2, .int (nI (pm_pf S k))), (3, .int (nI (pm_rl S k))), (4, .int (nI (pm_lm S k))), (5, .int (nI (pm_bc S 1 k))), (6, .int (nI (pm_bc S 2 k))), (7, .int (nI (pm_bc S 0 k))), (8, .int (nI k))]) hx hb dL_areFrames_55 hl (by decide) rfl (fun ls hl => ?_)
            refine lv_aload_n hx hb dL_areFrames_57 rfl (lv_at hl 3 rfl) ?_
            refine lv_iload hx hb dL_areFrames_58 (lv_at hl 11 rfl) ?_
            refine lv_iconst (v := nI 4) hx hb dL_areFrames_60 (by decide) ?_
            have hPc : va_P D vwCl (pm_cl y L S Bs pi kn Gs sv U) H := pq_kept hP0 hS
            refine vp_callSi (W.runV (As := [.int (nI k), .int (nI 4)]) (rest := []) ⟨hx, hb, hml, hown, hts⟩ (k_X3_of l D y L S Bs pi kn Gs sv U Bs Gs (nI k) (nI 4) hI.1) (cwV 2 hts gL_areFrames_X3_of rfl rfl rfl hd_X3_of ⟨Nat.le_of_ble_eq_true rfl, Nat.le_of_ble_eq_true rfl⟩) ⟨pm_ro_blind, va_recv hK hPc (ci := 3) (q0 := 0) rfl rfl, pm_ro_pre hPc hK⟩ rfl rfl hl.1 rfl (lv_room (Nat.le_of_ble_eq_true rfl)) dL_areFrames_61 ⟨Nat.le_of_ble_eq_true rfl, Nat.le_of_ble_eq_true rfl⟩) (fun r375 h376 => ?_)
            obtain rfl : r375 = nI (S 2 k) := h376.trans (pq_of4 (by omega))
            have := hI.1.size k (by omega)
            refine lv_istore (lv' := [(12, .int (nI (S 2 k))), (11, .int (nI (pm_ck (S 4 k)))), (10, .int (nI (pm_tk (S 4 k)))), (9, .int (nI 1)), (0, .ref (L 0 0)), (1, .ref aw), (2, .int (nI (pm_pf S k))), (3, .int (nI (pm_rl S k))), (4, .int (nI (pm_lm S k))), (5, .int (nI (pm_bc S 1 k))), (6, .int (nI (pm_bc S 2 k))), (7, .int (nI (pm_bc S 0 k))), (8, .int (nI k))]) hx hb dL_areFrames_64 hl (by decide) rfl (fun ls hl => ?_)
            refine lv_iload hx hb dL_areFrames_66 (lv_at hl 3 rfl) ?_
            refine lv_iconst (v := nI 1) hx hb dL_areFrames_68 (by decide) ?_
            refine lv_icmp_eq (tgt := 78) hx hb dL_areFrames_69 (by decide) (fun _ => ?_) (fun c377 => (c377 (by decide)).elim)
            refine lv_iconst (v := nI 1) hx hb dL_areFrames_78 (by decide) ?_
            refine lv_goto (tgt := 83) hx hb dL_areFrames_79 (by decide) ?_
            refine lv_istore (lv' := [(13, .int (nI 1)), (12, .int (nI (S 2 k))), (11, .int (nI (pm_ck (S 4 k)))), (10, .int (nI (pm_tk (S 4 k)))), (9, .int (nI 1)), (0, .ref (L 0 0)), (1, .ref aw), (2, .int (nI (pm_pf S k))), (3, .int (nI (pm_rl S k))), (4, .int (nI (pm_lm S k))), (5, .int (nI (pm_bc S 1 k))), (6, .int (nI (pm_bc S 2 k))), (7, .int (nI (pm_bc S 0 k))), (8, .int (nI k))]) hx hb dL_areFrames_83 hl (by decide) rfl (fun ls hl => ?_)
            refine lv_iload hx hb dL_areFrames_85 (lv_at hl 4 rfl) ?_
            refine lv_if_lt (tgt := 180) hx hb dL_areFrames_87 (by decide) (fun c378 => absurd c378 (by decide)) (fun _ => ?_)
            refine lv_iload hx hb dL_areFrames_90 (lv_at hl 4 rfl) ?_
            refine lv_iconst (v := nI 4) hx hb dL_areFrames_92 (by decide) ?_
            refine lv_icmp_ge (tgt := 180) hx hb dL_areFrames_93 (by decide) (fun c379 => absurd c379 (by decide)) (fun _ => ?_)
            refine lv_iload hx hb dL_areFrames_96 (lv_at hl 3 rfl) ?_
            refine lv_iload hx hb dL_areFrames_98 (lv_at hl 2 rfl) ?_
            refine lv_iand hx hb dL_areFrames_100 ?_
            refine lv_topi (fun x380 e381 => ?_)
            obtain rfl : x380 = nI 0 := e381.trans (pq_and (hI.1.okm k hk))
            refine lv_if_ne (tgt := 180) hx hb dL_areFrames_101 (by decide) (fun c382 => (c382 (by decide)).elim) (fun _ => ?_)
            refine lv_iload hx hb dL_areFrames_104 (lv_at hl 4 rfl) ?_
            refine lv_if_eq (tgt := 117) hx hb dL_areFrames_106 (by decide) (fun c383 => absurd c383 (by decide)) (fun _ => ?_)
            refine lv_iload hx hb dL_areFrames_109 (lv_at hl 3 rfl) ?_
            refine lv_iload hx hb dL_areFrames_111 (lv_at hl 2 rfl) ?_
            refine kx_iadd hx hb dL_areFrames_113 ?_
            refine kx_if_ne (tgt := 180) hx hb (by omega) dL_areFrames_114 (by decide) (fun c384 => by exfalso; omega) (fun c384 => ?_)
            refine lv_iload hx hb dL_areFrames_117 (lv_at hl 0 rfl) ?_
            refine lv_if_eq (tgt := 161) hx hb dL_areFrames_119 (by decide) (fun c385 => absurd c385 (by decide)) (fun _ => ?_)
            refine lv_iload hx hb dL_areFrames_122 (lv_at hl 1 rfl) ?_
            refine kx_if_le (tgt := 180) hx hb (by omega) dL_areFrames_124 (by decide) (fun c386 => by exfalso; omega) (fun c386 => ?_)
            refine lv_iload hx hb dL_areFrames_127 (lv_at hl 1 rfl) ?_
            refine lv_iconst (v := nI 4) hx hb dL_areFrames_129 (by decide) ?_
            refine kx_icmp_ge (tgt := 180) hx hb (by omega) (by decide) dL_areFrames_130 (by decide) (fun c387 => by exfalso; omega) (fun c387 => ?_)
            refine lv_aload_n hx hb dL_areFrames_133 rfl (lv_at hl 5 rfl) ?_
            refine lv_iload hx hb dL_areFrames_134 (lv_at hl 13 rfl) ?_
            refine lv_iconst (v := nI 5) hx hb dL_areFrames_136 (by decide) ?_
            have hPc : va_P D vwCl (pm_cl y L S Bs pi kn Gs sv U) H := pq_kept hP0 hS
            refine vp_callSi (W.runV (As := [.int (nI k), .int (nI 5)]) (rest := []) ⟨hx, hb, hml, hown, hts⟩ (k_X3_of l D y L S Bs pi kn Gs sv U Bs Gs (nI k) (nI 5) hI.1) (cwV 2 hts gL_areFrames_X3_of rfl rfl rfl hd_X3_of ⟨Nat.le_of_ble_eq_true rfl, Nat.le_of_ble_eq_true rfl⟩) ⟨pm_ro_blind, va_recv hK hPc (ci := 3) (q0 := 0) rfl rfl, pm_ro_pre hPc hK⟩ rfl rfl hl.1 rfl (lv_room (Nat.le_of_ble_eq_true rfl)) dL_areFrames_137 ⟨Nat.le_of_ble_eq_true rfl, Nat.le_of_ble_eq_true rfl⟩) (fun r388 h389 => ?_)
            obtain rfl : r388 = pm_ci (S 3 k) := h389.trans (pq_of5 (by omega))
            have := hI.1.chi k (by omega)
            have := hI.1.rnd
            refine lv_topi (fun x390 e391 => ?_)
            obtain rfl : x390 = nI (S 3 k - 1) := e391.trans (pm_ci_p (by omega))
            refine kx_if_lt (tgt := 180) hx hb (by omega) dL_areFrames_140 (by decide) ?_
            refine lv_aload_n hx hb dL_areFrames_143 rfl (lv_at hl 5 rfl) ?_
            refine lv_iload hx hb dL_areFrames_144 (lv_at hl 13 rfl) ?_
            refine lv_iconst (v := nI 5) hx hb dL_areFrames_146 (by decide) ?_
            have hPc : va_P D vwCl (pm_cl y L S Bs pi kn Gs sv U) H := pq_kept hP0 hS
            refine vp_callSi (W.runV (As := [.int (nI k), .int (nI 5)]) (rest := []) ⟨hx, hb, hml, hown, hts⟩ (k_X3_of l D y L S Bs pi kn Gs sv U Bs Gs (nI k) (nI 5) hI.1) (cwV 2 hts gL_areFrames_X3_of rfl rfl rfl hd_X3_of ⟨Nat.le_of_ble_eq_true rfl, Nat.le_of_ble_eq_true rfl⟩) ⟨pm_ro_blind, va_recv hK hPc (ci := 3) (q0 := 0) rfl rfl, pm_ro_pre hPc hK⟩ rfl rfl hl.1 rfl (lv_room (Nat.le_of_ble_eq_true rfl)) dL_areFrames_147 ⟨Nat.le_of_ble_eq_true rfl, Nat.le_of_ble_eq_true rfl⟩) (fun r392 h393 => ?_)
            obtain rfl : r392 = pm_ci (S 3 k) := h393.trans (pq_of5 (by omega))
            have := hI.1.chi k (by omega)
            have := hI.1.rnd
            refine lv_topi (fun x394 e395 => ?_)
            obtain rfl : x394 = nI (S 3 k - 1) := e395.trans (pm_ci_p (by omega))
            refine lv_aload_n hx hb dL_areFrames_150 rfl (lv_at hl 5 rfl) ?_
            refine lv_iconst (v := nI 0) hx hb dL_areFrames_151 (by decide) ?_
            have hPc : va_P D vwCl (pm_cl y L S Bs pi kn Gs sv U) H := pq_kept hP0 hS
            refine vp_callSi (W.runV (As := [.int (nI 0)]) (rest := [.int (nI (S 3 k - 1))]) ⟨hx, hb, hml, hown, hts⟩ (k_X3_count l D y L S Bs pi kn Gs sv U Bs Gs (nI 0) hI.1) (cwV 1 hts gL_areFrames_X3_count rfl rfl rfl hd_X3_count ⟨Nat.le_of_ble_eq_true rfl, Nat.le_of_ble_eq_true rfl⟩) ⟨pm_ron_blind, va_recv hK hPc (ci := 3) (q0 := 0) rfl rfl, pm_ron_pre hPc hK hN⟩ rfl rfl hl.1 rfl (lv_room (Nat.le_of_ble_eq_true rfl)) dL_areFrames_152 ⟨Nat.le_of_ble_eq_true rfl, Nat.le_of_ble_eq_true rfl⟩) (fun r396 h397 => ?_)
            obtain rfl : r396 = nI (S 10 0) := h397.trans (pq_co0)
            have := hI.1.rnd
            refine kx_icmp_ge (tgt := 180) hx hb (by omega) (by omega) dL_areFrames_155 (by decide) (fun c398 => by exfalso; omega) (fun c398 => ?_)
            refine lv_goto (tgt := 166) hx hb dL_areFrames_158 (by decide) ?_
            refine lv_aload_n hx hb dL_areFrames_166 rfl (lv_at hl 5 rfl) ?_
            refine lv_iload hx hb dL_areFrames_167 (lv_at hl 13 rfl) ?_
            refine lv_iconst (v := nI 3) hx hb dL_areFrames_169 (by decide) ?_
            have hPc : va_P D vwCl (pm_cl y L S Bs pi kn Gs sv U) H := pq_kept hP0 hS
            refine vp_callSi (W.runV (As := [.int (nI k), .int (nI 3)]) (rest := []) ⟨hx, hb, hml, hown, hts⟩ (k_X3_of l D y L S Bs pi kn Gs sv U Bs Gs (nI k) (nI 3) hI.1) (cwV 2 hts gL_areFrames_X3_of rfl rfl rfl hd_X3_of ⟨Nat.le_of_ble_eq_true rfl, Nat.le_of_ble_eq_true rfl⟩) ⟨pm_ro_blind, va_recv hK hPc (ci := 3) (q0 := 0) rfl rfl, pm_ro_pre hPc hK⟩ rfl rfl hl.1 rfl (lv_room (Nat.le_of_ble_eq_true rfl)) dL_areFrames_170 ⟨Nat.le_of_ble_eq_true rfl, Nat.le_of_ble_eq_true rfl⟩) (fun r399 h400 => ?_)
            obtain rfl : r399 = nI (S 1 k) := h400.trans (pq_of3 (by omega))
            have := hI.1.dull k (by omega)
            have := hI.1.rnd
            refine kx_if_lt (tgt := 180) hx hb (by omega) dL_areFrames_173 (by decide) ?_
            refine lv_iconst (v := nI 1) hx hb dL_areFrames_176 (by decide) ?_
            refine lv_goto (tgt := 181) hx hb dL_areFrames_177 (by decide) ?_
            refine lv_istore (lv' := [(14, .int (nI 1)), (13, .int (nI 1)), (12, .int (nI (S 2 k))), (11, .int (nI (pm_ck (S 4 k)))), (10, .int (nI (pm_tk (S 4 k)))), (9, .int (nI 1)), (0, .ref (L 0 0)), (1, .ref aw), (2, .int (nI (pm_pf S k))), (3, .int (nI (pm_rl S k))), (4, .int (nI (pm_lm S k))), (5, .int (nI (pm_bc S 1 k))), (6, .int (nI (pm_bc S 2 k))), (7, .int (nI (pm_bc S 0 k))), (8, .int (nI k))]) hx hb dL_areFrames_181 hl (by decide) rfl (fun ls hl => ?_)
            refine lv_iload hx hb dL_areFrames_183 (lv_at hl 5 rfl) ?_
            refine lv_if_eq (tgt := 192) hx hb dL_areFrames_185 (by decide) (fun c401 => absurd c401 (by decide)) (fun _ => ?_)
            refine lv_iconst (v := nI 1) hx hb dL_areFrames_188 (by decide) ?_
            refine lv_goto (tgt := 220) hx hb dL_areFrames_189 (by decide) ?_
            refine lv_istore (lv' := [(15, .int (nI 1)), (14, .int (nI 1)), (13, .int (nI 1)), (12, .int (nI (S 2 k))), (11, .int (nI (pm_ck (S 4 k)))), (10, .int (nI (pm_tk (S 4 k)))), (9, .int (nI 1)), (0, .ref (L 0 0)), (1, .ref aw), (2, .int (nI (pm_pf S k))), (3, .int (nI (pm_rl S k))), (4, .int (nI (pm_lm S k))), (5, .int (nI (pm_bc S 1 k))), (6, .int (nI (pm_bc S 2 k))), (7, .int (nI (pm_bc S 0 k))), (8, .int (nI k))]) hx hb dL_areFrames_220 hl (by decide) rfl (fun ls hl => ?_)
            refine lv_iload hx hb dL_areFrames_222 (lv_at hl 1 rfl) ?_
            refine lv_if_eq (tgt := 252) hx hb dL_areFrames_224 (by decide) (fun c402 => absurd c402 (by decide)) (fun _ => ?_)
            refine lv_aload_n hx hb dL_areFrames_227 rfl (lv_at hl 7 rfl) ?_
            refine lv_iload hx hb dL_areFrames_228 (lv_at hl 15 rfl) ?_
            have hPc : va_P D vwCl (pm_cl y L S Bs pi kn Gs sv U) H := pq_kept hP0 hS
            refine vp_callSi (W.runV (As := [.int (nI k)]) (rest := []) ⟨hx, hb, hml, hown, hts⟩ (k_X3_why l D y L S Bs pi kn Gs sv U Bs Gs (nI k) hI.1) (cwV 1 hts gL_areFrames_X3_why rfl rfl rfl hd_X3_why ⟨Nat.le_of_ble_eq_true rfl, Nat.le_of_ble_eq_true rfl⟩) ⟨pm_ro_blind, va_recv hK hPc (ci := 3) (q0 := 0) rfl rfl, pm_ro_pre hPc hK⟩ rfl rfl hl.1 rfl (lv_room (Nat.le_of_ble_eq_true rfl)) dL_areFrames_230 ⟨Nat.le_of_ble_eq_true rfl, Nat.le_of_ble_eq_true rfl⟩) (fun r403 h404 => ?_)
            obtain rfl : r403 = nI 1 := h404.trans (hw)
            refine lv_iload hx hb dL_areFrames_233 (lv_at hl 0 rfl) ?_
            refine lv_icmp_ne (tgt := 252) hx hb dL_areFrames_235 (by decide) (fun c405 => (c405 (by decide)).elim) (fun _ => ?_)
            refine lv_iload hx hb dL_areFrames_238 (lv_at hl 6 rfl) ?_
            refine lv_if_eq (tgt := 254) hx hb dL_areFrames_240 (by decide) (fun c406 => absurd c406 (by decide)) (fun _ => ?_)
            refine lv_aload_n hx hb dL_areFrames_243 rfl (lv_at hl 7 rfl) ?_
            refine lv_iload hx hb dL_areFrames_244 (lv_at hl 15 rfl) ?_
            have hPc : va_P D vwCl (pm_cl y L S Bs pi kn Gs sv U) H := pq_kept hP0 hS
            refine vp_callSi (W.runV (As := [.int (nI k)]) (rest := []) ⟨hx, hb, hml, hown, hts⟩ (k_X3_decides l D y L S Bs pi kn Gs sv U Bs Gs (nI k) hI.1) (cwV 1 hts gL_areFrames_X3_decides rfl rfl rfl hd_X3_decides ⟨Nat.le_of_ble_eq_true rfl, Nat.le_of_ble_eq_true rfl⟩) ⟨pm_ro_blind, va_recv hK hPc (ci := 3) (q0 := 0) rfl rfl, pm_ro_pre hPc hK⟩ rfl rfl hl.1 rfl (lv_room (Nat.le_of_ble_eq_true rfl)) dL_areFrames_246 ⟨Nat.le_of_ble_eq_true rfl, Nat.le_of_ble_eq_true rfl⟩) (fun r407 h408 => ?_)
            obtain rfl : r407 = nI (pm_ds S k 3) := h408.trans (pq_dec (by omega))
            have := pm_ds_lt S k 3
            refine lv_topi (fun x409 e410 => ?_)
            obtain rfl : x409 = nI 0 := e410.trans (congrArg nI (pq_ds0 (by omega) 3))
            refine lv_if_eq (tgt := 254) hx hb dL_areFrames_249 (by decide) (fun _ => ?_) (fun c411 => (c411 (by decide)).elim)
            refine lv_aload_n hx hb dL_areFrames_254 rfl (lv_at hl 8 rfl) ?_
            refine lv_iload hx hb dL_areFrames_255 (lv_at hl 6 rfl) ?_
            refine lv_dup2_11 hx hb dL_areFrames_257 rfl rfl ?_
            refine kx_iald (v := nI (pm_hm S 1 k)) hx hb hK hP 0 0 rfl rfl (by decide) (by decide) rfl dL_areFrames_258 ?_
            refine lv_iconst (v := nI 1) hx hb dL_areFrames_259 (by decide) ?_
            refine kx_iadd hx hb dL_areFrames_260 ?_
            refine kx_iast (ws' := [(aw, .inl (y 0, 4, .inl (pm_vn (fun j => pm_hm S j (k + 1)))))]) hx hb hK hP hD hS 0 0 rfl rfl (by decide) (by decide) (pq_how h0) rfl dL_areFrames_261 (fun H locs hP hD hS => ?_)
            refine lv_iload_n hx hb dL_areFrames_262 rfl (lv_at hl 9 rfl) ?_
            refine lv_iload hx hb dL_areFrames_263 (lv_at hl 6 rfl) ?_
            refine lv_iconst (v := nI 1) hx hb dL_areFrames_265 (by decide) ?_
            refine lv_icmp_ne (tgt := 280) hx hb dL_areFrames_266 (by decide) (fun c412 => (c412 (by decide)).elim) (fun _ => ?_)
            refine lv_bipush (v := nI 10) hx hb dL_areFrames_269 (by decide) ?_
            refine lv_iload hx hb dL_areFrames_271 (lv_at hl 3 rfl) ?_
            refine kx_imul hx hb dL_areFrames_273 ?_
            refine lv_iload hx hb dL_areFrames_274 (lv_at hl 3 rfl) ?_
            refine kx_imul hx hb dL_areFrames_276 ?_
            refine lv_goto (tgt := 281) hx hb dL_areFrames_277 (by decide) ?_
            refine kx_iadd hx hb dL_areFrames_281 ?_
            refine lv_istore_n (lv' := [(2, .int (nI ((pm_pf S k) + ((10 * (S 2 k)) * (S 2 k))))), (15, .int (nI 1)), (14, .int (nI 1)), (13, .int (nI 1)), (12, .int (nI (S 2 k))), (11, .int (nI (pm_ck (S 4 k)))), (10, .int (nI (pm_tk (S 4 k)))), (9, .int (nI 1)), (0, .ref (L 0 0)), (1, .ref aw), (3, .int (nI (pm_rl S k))), (4, .int (nI (pm_lm S k))), (5, .int (nI (pm_bc S 1 k))), (6, .int (nI (pm_bc S 2 k))), (7, .int (nI (pm_bc S 0 k))), (8, .int (nI k))]) hx hb dL_areFrames_282 rfl hl (by decide) rfl (fun ls hl => ?_)
            refine lv_iload hx hb dL_areFrames_283 (lv_at hl 3 rfl) ?_
            refine lv_if_ne (tgt := 292) hx hb dL_areFrames_285 (by decide) (fun _ => ?_) (fun c413 => absurd c413 (by decide))
            refine lv_iload hx hb dL_areFrames_292 (lv_at hl 15 rfl) ?_
            refine lv_bipush (v := nI 6) hx hb dL_areFrames_294 (by decide) ?_
            refine kx_irem hx hb (by omega) (by omega) (by omega) dL_areFrames_296 ?_
            refine kx_if_ne (tgt := 304) hx hb (by omega) dL_areFrames_297 (by decide) (fun c414 => by exfalso; omega) (fun c414 => ?_)
            refine lv_iconst (v := nI 1) hx hb dL_areFrames_300 (by decide) ?_
            refine lv_goto (tgt := 307) hx hb dL_areFrames_301 (by decide) ?_
            refine lv_istore_n (lv' := [(3, .int (nI 1)), (2, .int (nI ((pm_pf S k) + ((10 * (S 2 k)) * (S 2 k))))), (15, .int (nI 1)), (14, .int (nI 1)), (13, .int (nI 1)), (12, .int (nI (S 2 k))), (11, .int (nI (pm_ck (S 4 k)))), (10, .int (nI (pm_tk (S 4 k)))), (9, .int (nI 1)), (0, .ref (L 0 0)), (1, .ref aw), (4, .int (nI (pm_lm S k))), (5, .int (nI (pm_bc S 1 k))), (6, .int (nI (pm_bc S 2 k))), (7, .int (nI (pm_bc S 0 k))), (8, .int (nI k))]) hx hb dL_areFrames_307 rfl hl (by decide) rfl (fun ls hl => ?_)
            refine lv_iload_n hx hb dL_areFrames_308 rfl (lv_at hl 0 rfl) ?_
            refine lv_iload hx hb dL_areFrames_309 (lv_at hl 11 rfl) ?_
            refine kx_icmp_le (tgt := 318) hx hb (by decide) (by omega) dL_areFrames_311 (by decide) (fun c415 => ?_) (fun c415 => ?_)
            · skip
              refine lv_iload hx hb dL_areFrames_318 (lv_at hl 11 rfl) ?_
              refine lv_istore (lv' := [(4, .int (nI (pm_lm S k))), (3, .int (nI 1)), (2, .int (nI ((pm_pf S k) + ((10 * (S 2 k)) * (S 2 k))))), (15, .int (nI 1)), (14, .int (nI 1)), (13, .int (nI 1)), (12, .int (nI (S 2 k))), (11, .int (nI (pm_ck (S 4 k)))), (10, .int (nI (pm_tk (S 4 k)))), (9, .int (nI 1)), (0, .ref (L 0 0)), (1, .ref aw), (5, .int (nI (pm_bc S 1 k))), (6, .int (nI (pm_bc S 2 k))), (7, .int (nI (pm_bc S 0 k))), (8, .int (nI k))]) hx hb dL_areFrames_320 hl (by decide) rfl (fun ls hl => ?_)
              refine lv_iload hx hb dL_areFrames_322 (lv_at hl 8 rfl) ?_
              refine lv_iload hx hb dL_areFrames_324 (lv_at hl 7 rfl) ?_
              refine kx_iadd hx hb dL_areFrames_326 ?_
              refine kx_if_ne (tgt := 334) hx hb (by omega) dL_areFrames_327 (by decide) (fun c416 => by exfalso; omega) (fun c416 => ?_)
              refine lv_iconst (v := nI 1) hx hb dL_areFrames_330 (by decide) ?_
              refine lv_goto (tgt := 335) hx hb dL_areFrames_331 (by decide) ?_
              refine lv_istore (lv' := [(16, .int (nI 1)), (4, .int (nI (pm_lm S k))), (3, .int (nI 1)), (2, .int (nI ((pm_pf S k) + ((10 * (S 2 k)) * (S 2 k))))), (15, .int (nI 1)), (14, .int (nI 1)), (13, .int (nI 1)), (12, .int (nI (S 2 k))), (11, .int (nI (pm_ck (S 4 k)))), (10, .int (nI (pm_tk (S 4 k)))), (9, .int (nI 1)), (0, .ref (L 0 0)), (1, .ref aw), (5, .int (nI (pm_bc S 1 k))), (6, .int (nI (pm_bc S 2 k))), (7, .int (nI (pm_bc S 0 k))), (8, .int (nI k))]) hx hb dL_areFrames_335 hl (by decide) rfl (fun ls hl => ?_)
              refine lv_iload hx hb dL_areFrames_337 (lv_at hl 10 rfl) ?_
              refine lv_if_ne (tgt := 393) hx hb dL_areFrames_339 (by decide) (fun _ => ?_) (fun c417 => absurd c417 (by decide))
              refine lv_iconst (v := nI 0) hx hb dL_areFrames_393 (by decide) ?_
              refine lv_istore (lv' := [(17, .int (nI 0)), (16, .int (nI 1)), (4, .int (nI (pm_lm S k))), (3, .int (nI 1)), (2, .int (nI ((pm_pf S k) + ((10 * (S 2 k)) * (S 2 k))))), (15, .int (nI 1)), (14, .int (nI 1)), (13, .int (nI 1)), (12, .int (nI (S 2 k))), (11, .int (nI (pm_ck (S 4 k)))), (10, .int (nI (pm_tk (S 4 k)))), (9, .int (nI 1)), (0, .ref (L 0 0)), (1, .ref aw), (5, .int (nI (pm_bc S 1 k))), (6, .int (nI (pm_bc S 2 k))), (7, .int (nI (pm_bc S 0 k))), (8, .int (nI k))]) hx hb dL_areFrames_394 hl (by decide) rfl (fun ls hl => ?_)
              refine lv_iload hx hb dL_areFrames_396 (lv_at hl 14 rfl) ?_
              refine lv_iload hx hb dL_areFrames_398 (lv_at hl 5 rfl) ?_
              refine lv_if_ne (tgt := 407) hx hb dL_areFrames_400 (by decide) (fun _ => ?_) (fun c418 => absurd c418 (by decide))
              refine lv_iconst (v := nI 0) hx hb dL_areFrames_407 (by decide) ?_
              refine kx_iadd hx hb dL_areFrames_408 ?_
              refine lv_istore (lv' := [(5, .int (nI ((pm_bc S 1 k) + 0))), (17, .int (nI 0)), (16, .int (nI 1)), (4, .int (nI (pm_lm S k))), (3, .int (nI 1)), (2, .int (nI ((pm_pf S k) + ((10 * (S 2 k)) * (S 2 k))))), (15, .int (nI 1)), (14, .int (nI 1)), (13, .int (nI 1)), (12, .int (nI (S 2 k))), (11, .int (nI (pm_ck (S 4 k)))), (10, .int (nI (pm_tk (S 4 k)))), (9, .int (nI 1)), (0, .ref (L 0 0)), (1, .ref aw), (6, .int (nI (pm_bc S 2 k))), (7, .int (nI (pm_bc S 0 k))), (8, .int (nI k))]) hx hb dL_areFrames_409 hl (by decide) rfl (fun ls hl => ?_)
              refine lv_iload hx hb dL_areFrames_411 (lv_at hl 15 rfl) ?_
              refine lv_iload hx hb dL_areFrames_413 (lv_at hl 1 rfl) ?_
              refine lv_if_eq (tgt := 422) hx hb dL_areFrames_415 (by decide) (fun _ => ?_) (fun c419 => (c419 (by decide)).elim)
              refine lv_iconst (v := nI 0) hx hb dL_areFrames_422 (by decide) ?_
              refine kx_iadd hx hb dL_areFrames_423 ?_
              refine lv_istore (lv' := [(6, .int (nI ((pm_bc S 2 k) + 0))), (5, .int (nI ((pm_bc S 1 k) + 0))), (17, .int (nI 0)), (16, .int (nI 1)), (4, .int (nI (pm_lm S k))), (3, .int (nI 1)), (2, .int (nI ((pm_pf S k) + ((10 * (S 2 k)) * (S 2 k))))), (15, .int (nI 1)), (14, .int (nI 1)), (13, .int (nI 1)), (12, .int (nI (S 2 k))), (11, .int (nI (pm_ck (S 4 k)))), (10, .int (nI (pm_tk (S 4 k)))), (9, .int (nI 1)), (0, .ref (L 0 0)), (1, .ref aw), (7, .int (nI (pm_bc S 0 k))), (8, .int (nI k))]) hx hb dL_areFrames_424 hl (by decide) rfl (fun ls hl => ?_)
              refine lv_iload hx hb dL_areFrames_426 (lv_at hl 16 rfl) ?_
              refine lv_iload hx hb dL_areFrames_428 (lv_at hl 13 rfl) ?_
              refine lv_if_ne (tgt := 447) hx hb dL_areFrames_430 (by decide) (fun _ => ?_) (fun c420 => absurd c420 (by decide))
              refine lv_iconst (v := nI 0) hx hb dL_areFrames_447 (by decide) ?_
              refine kx_iadd hx hb dL_areFrames_448 ?_
              refine lv_istore (lv' := [(7, .int (nI ((pm_bc S 0 k) + 0))), (6, .int (nI ((pm_bc S 2 k) + 0))), (5, .int (nI ((pm_bc S 1 k) + 0))), (17, .int (nI 0)), (16, .int (nI 1)), (4, .int (nI (pm_lm S k))), (3, .int (nI 1)), (2, .int (nI ((pm_pf S k) + ((10 * (S 2 k)) * (S 2 k))))), (15, .int (nI 1)), (14, .int (nI 1)), (13, .int (nI 1)), (12, .int (nI (S 2 k))), (11, .int (nI (pm_ck (S 4 k)))), (10, .int (nI (pm_tk (S 4 k)))), (9, .int (nI 1)), (0, .ref (L 0 0)), (1, .ref aw), (8, .int (nI k))]) hx hb dL_areFrames_449 hl (by decide) rfl (fun ls hl => ?_)
              refine kx_iinc (a := k) (lv' := [(8, .int (nI (k + 1))), (7, .int (nI ((pm_bc S 0 k) + 0))), (6, .int (nI ((pm_bc S 2 k) + 0))), (5, .int (nI ((pm_bc S 1 k) + 0))), (17, .int (nI 0)), (16, .int (nI 1)), (4, .int (nI (pm_lm S k))), (3, .int (nI 1)), (2, .int (nI ((pm_pf S k) + ((10 * (S 2 k)) * (S 2 k))))), (15, .int (nI 1)), (14, .int (nI 1)), (13, .int (nI 1)), (12, .int (nI (S 2 k))), (11, .int (nI (pm_ck (S 4 k)))), (10, .int (nI (pm_tk (S 4 k)))), (9, .int (nI 1)), (0, .ref (L 0 0)), (1, .ref aw)]) hx hb dL_areFrames_451 hl (k := 17) rfl (by decide) rfl (fun ls hl => ?_)
              refine lv_goto (tgt := 23) hx hb dL_areFrames_454 (by decide) ?_
              have q421 : (nI (pm_pf S (k + 1)) : Int32) = nI ((pm_pf S k) + ((10 * (S 2 k)) * (S 2 k))) := (congrArg nI (pm_pf_p h0))
              have q422 : (nI (pm_rl S (k + 1)) : Int32) = nI 1 := (congrArg nI hrl)
              have q423 : (nI (pm_lm S (k + 1)) : Int32) = nI (pm_lm S k) := (congrArg nI (by rw [pq_lm hrl]; split <;> omega))
              have q424 : (nI (pm_bc S 1 (k + 1)) : Int32) = nI ((pm_bc S 1 k) + 0) := (congrArg nI (pq_bcn (by omega) 1))
              have q425 : (nI (pm_bc S 2 (k + 1)) : Int32) = nI ((pm_bc S 2 k) + 0) := (congrArg nI (pq_bcn (by omega) 2))
              have q426 : (nI (pm_bc S 0 (k + 1)) : Int32) = nI ((pm_bc S 0 k) + 0) := (congrArg nI (pq_bcn (by omega) 0))
              exact ih3 (k + 1) ls H locs hP hD hS (by omega) (by omega) (by rw [q421, q422, q423, q424, q425, q426]; exact lv_sub hl [16, 17, 8, 7, 6, 3, 2, 1, 0] rfl) 
            · skip
              refine lv_iload_n hx hb dL_areFrames_314 rfl (lv_at hl 0 rfl) ?_
              refine lv_goto (tgt := 320) hx hb dL_areFrames_315 (by decide) ?_
              refine lv_istore (lv' := [(4, .int (nI 1)), (3, .int (nI 1)), (2, .int (nI ((pm_pf S k) + ((10 * (S 2 k)) * (S 2 k))))), (15, .int (nI 1)), (14, .int (nI 1)), (13, .int (nI 1)), (12, .int (nI (S 2 k))), (11, .int (nI (pm_ck (S 4 k)))), (10, .int (nI (pm_tk (S 4 k)))), (9, .int (nI 1)), (0, .ref (L 0 0)), (1, .ref aw), (5, .int (nI (pm_bc S 1 k))), (6, .int (nI (pm_bc S 2 k))), (7, .int (nI (pm_bc S 0 k))), (8, .int (nI k))]) hx hb dL_areFrames_320 hl (by decide) rfl (fun ls hl => ?_)
              refine lv_iload hx hb dL_areFrames_322 (lv_at hl 8 rfl) ?_
              refine lv_iload hx hb dL_areFrames_324 (lv_at hl 7 rfl) ?_
              refine kx_iadd hx hb dL_areFrames_326 ?_
              refine kx_if_ne (tgt := 334) hx hb (by omega) dL_areFrames_327 (by decide) (fun c427 => by exfalso; omega) (fun c427 => ?_)
              refine lv_iconst (v := nI 1) hx hb dL_areFrames_330 (by decide) ?_
              refine lv_goto (tgt := 335) hx hb dL_areFrames_331 (by decide) ?_
              refine lv_istore (lv' := [(16, .int (nI 1)), (4, .int (nI 1)), (3, .int (nI 1)), (2, .int (nI ((pm_pf S k) + ((10 * (S 2 k)) * (S 2 k))))), (15, .int (nI 1)), (14, .int (nI 1)), (13, .int (nI 1)), (12, .int (nI (S 2 k))), (11, .int (nI (pm_ck (S 4 k)))), (10, .int (nI (pm_tk (S 4 k)))), (9, .int (nI 1)), (0, .ref (L 0 0)), (1, .ref aw), (5, .int (nI (pm_bc S 1 k))), (6, .int (nI (pm_bc S 2 k))), (7, .int (nI (pm_bc S 0 k))), (8, .int (nI k))]) hx hb dL_areFrames_335 hl (by decide) rfl (fun ls hl => ?_)
              refine lv_iload hx hb dL_areFrames_337 (lv_at hl 10 rfl) ?_
              refine lv_if_ne (tgt := 393) hx hb dL_areFrames_339 (by decide) (fun _ => ?_) (fun c428 => absurd c428 (by decide))
              refine lv_iconst (v := nI 0) hx hb dL_areFrames_393 (by decide) ?_
              refine lv_istore (lv' := [(17, .int (nI 0)), (16, .int (nI 1)), (4, .int (nI 1)), (3, .int (nI 1)), (2, .int (nI ((pm_pf S k) + ((10 * (S 2 k)) * (S 2 k))))), (15, .int (nI 1)), (14, .int (nI 1)), (13, .int (nI 1)), (12, .int (nI (S 2 k))), (11, .int (nI (pm_ck (S 4 k)))), (10, .int (nI (pm_tk (S 4 k)))), (9, .int (nI 1)), (0, .ref (L 0 0)), (1, .ref aw), (5, .int (nI (pm_bc S 1 k))), (6, .int (nI (pm_bc S 2 k))), (7, .int (nI (pm_bc S 0 k))), (8, .int (nI k))]) hx hb dL_areFrames_394 hl (by decide) rfl (fun ls hl => ?_)
              refine lv_iload hx hb dL_areFrames_396 (lv_at hl 14 rfl) ?_
              refine lv_iload hx hb dL_areFrames_398 (lv_at hl 5 rfl) ?_
              refine lv_if_ne (tgt := 407) hx hb dL_areFrames_400 (by decide) (fun _ => ?_) (fun c429 => absurd c429 (by decide))
              refine lv_iconst (v := nI 0) hx hb dL_areFrames_407 (by decide) ?_
              refine kx_iadd hx hb dL_areFrames_408 ?_
              refine lv_istore (lv' := [(5, .int (nI ((pm_bc S 1 k) + 0))), (17, .int (nI 0)), (16, .int (nI 1)), (4, .int (nI 1)), (3, .int (nI 1)), (2, .int (nI ((pm_pf S k) + ((10 * (S 2 k)) * (S 2 k))))), (15, .int (nI 1)), (14, .int (nI 1)), (13, .int (nI 1)), (12, .int (nI (S 2 k))), (11, .int (nI (pm_ck (S 4 k)))), (10, .int (nI (pm_tk (S 4 k)))), (9, .int (nI 1)), (0, .ref (L 0 0)), (1, .ref aw), (6, .int (nI (pm_bc S 2 k))), (7, .int (nI (pm_bc S 0 k))), (8, .int (nI k))]) hx hb dL_areFrames_409 hl (by decide) rfl (fun ls hl => ?_)
              refine lv_iload hx hb dL_areFrames_411 (lv_at hl 15 rfl) ?_
              refine lv_iload hx hb dL_areFrames_413 (lv_at hl 1 rfl) ?_
              refine lv_if_eq (tgt := 422) hx hb dL_areFrames_415 (by decide) (fun _ => ?_) (fun c430 => (c430 (by decide)).elim)
              refine lv_iconst (v := nI 0) hx hb dL_areFrames_422 (by decide) ?_
              refine kx_iadd hx hb dL_areFrames_423 ?_
              refine lv_istore (lv' := [(6, .int (nI ((pm_bc S 2 k) + 0))), (5, .int (nI ((pm_bc S 1 k) + 0))), (17, .int (nI 0)), (16, .int (nI 1)), (4, .int (nI 1)), (3, .int (nI 1)), (2, .int (nI ((pm_pf S k) + ((10 * (S 2 k)) * (S 2 k))))), (15, .int (nI 1)), (14, .int (nI 1)), (13, .int (nI 1)), (12, .int (nI (S 2 k))), (11, .int (nI (pm_ck (S 4 k)))), (10, .int (nI (pm_tk (S 4 k)))), (9, .int (nI 1)), (0, .ref (L 0 0)), (1, .ref aw), (7, .int (nI (pm_bc S 0 k))), (8, .int (nI k))]) hx hb dL_areFrames_424 hl (by decide) rfl (fun ls hl => ?_)
              refine lv_iload hx hb dL_areFrames_426 (lv_at hl 16 rfl) ?_
              refine lv_iload hx hb dL_areFrames_428 (lv_at hl 13 rfl) ?_
              refine lv_if_ne (tgt := 447) hx hb dL_areFrames_430 (by decide) (fun _ => ?_) (fun c431 => absurd c431 (by decide))
              refine lv_iconst (v := nI 0) hx hb dL_areFrames_447 (by decide) ?_
              refine kx_iadd hx hb dL_areFrames_448 ?_
              refine lv_istore (lv' := [(7, .int (nI ((pm_bc S 0 k) + 0))), (6, .int (nI ((pm_bc S 2 k) + 0))), (5, .int (nI ((pm_bc S 1 k) + 0))), (17, .int (nI 0)), (16, .int (nI 1)), (4, .int (nI 1)), (3, .int (nI 1)), (2, .int (nI ((pm_pf S k) + ((10 * (S 2 k)) * (S 2 k))))), (15, .int (nI 1)), (14, .int (nI 1)), (13, .int (nI 1)), (12, .int (nI (S 2 k))), (11, .int (nI (pm_ck (S 4 k)))), (10, .int (nI (pm_tk (S 4 k)))), (9, .int (nI 1)), (0, .ref (L 0 0)), (1, .ref aw), (8, .int (nI k))]) hx hb dL_areFrames_449 hl (by decide) rfl (fun ls hl => ?_)
              refine kx_iinc (a := k) (lv' := [(8, .int (nI (k + 1))), (7, .int (nI ((pm_bc S 0 k) + 0))), (6, .int (nI ((pm_bc S 2 k) + 0))), (5, .int (nI ((pm_bc S 1 k) + 0))), (17, .int (nI 0)), (16, .int (nI 1)), (4, .int (nI 1)), (3, .int (nI 1)), (2, .int (nI ((pm_pf S k) + ((10 * (S 2 k)) * (S 2 k))))), (15, .int (nI 1)), (14, .int (nI 1)), (13, .int (nI 1)), (12, .int (nI (S 2 k))), (11, .int (nI (pm_ck (S 4 k)))), (10, .int (nI (pm_tk (S 4 k)))), (9, .int (nI 1)), (0, .ref (L 0 0)), (1, .ref aw)]) hx hb dL_areFrames_451 hl (k := 17) rfl (by decide) rfl (fun ls hl => ?_)
              refine lv_goto (tgt := 23) hx hb dL_areFrames_454 (by decide) ?_
              have q432 : (nI (pm_pf S (k + 1)) : Int32) = nI ((pm_pf S k) + ((10 * (S 2 k)) * (S 2 k))) := (congrArg nI (pm_pf_p h0))
              have q433 : (nI (pm_rl S (k + 1)) : Int32) = nI 1 := (congrArg nI hrl)
              have q434 : (nI (pm_lm S (k + 1)) : Int32) = nI 1 := (congrArg nI (by rw [pq_lm hrl]; split <;> omega))
              have q435 : (nI (pm_bc S 1 (k + 1)) : Int32) = nI ((pm_bc S 1 k) + 0) := (congrArg nI (pq_bcn (by omega) 1))
              have q436 : (nI (pm_bc S 2 (k + 1)) : Int32) = nI ((pm_bc S 2 k) + 0) := (congrArg nI (pq_bcn (by omega) 2))
              have q437 : (nI (pm_bc S 0 (k + 1)) : Int32) = nI ((pm_bc S 0 k) + 0) := (congrArg nI (pq_bcn (by omega) 0))
              exact ih3 (k + 1) ls H locs hP hD hS (by omega) (by omega) (by rw [q432, q433, q434, q435, q436, q437]; exact lv_sub hl [16, 17, 8, 7, 6, 3, 2, 1, 0] rfl) 
          · have hrl := pq_rl2 (S := S) (by omega) h6
            refine lv_aload_n hx hb dL_areFrames_30 rfl (lv_at hl 0 rfl) ?_
            refine lv_iload hx hb dL_areFrames_31 (lv_at hl 8 rfl) ?_
            refine lv_iconst (v := nI 0) hx hb dL_areFrames_33 (by decide) ?_
            have hPc : va_P D vwCl (pm_cl y L S Bs pi kn Gs sv U) H := pq_kept hP0 hS
            refine vp_callSi (W.runV (As := [.int (nI k), .int (nI 0)]) (rest := []) ⟨hx, hb, hml, hown, hts⟩ (k_X3_of l D y L S Bs pi kn Gs sv U Bs Gs (nI k) (nI 0) hI.1) (cwV 2 hts gL_areFrames_X3_of rfl rfl rfl hd_X3_of ⟨Nat.le_of_ble_eq_true rfl, Nat.le_of_ble_eq_true rfl⟩) ⟨pm_ro_blind, va_recv hK hPc (ci := 3) (q0 := 0) rfl rfl, pm_ro_pre hPc hK⟩ rfl rfl hl.1 rfl (lv_room (Nat.le_of_ble_eq_true rfl)) dL_areFrames_34 ⟨Nat.le_of_ble_eq_true rfl, Nat.le_of_ble_eq_true rfl⟩) (fun r438 h439 => ?_)
            obtain rfl : r438 = nI 1 := h439.trans ((pq_of0 (by omega)).trans (congrArg nI h0))
            refine lv_istore (lv' := [(9, .int (nI 1)), (0, .ref (L 0 0)), (1, .ref aw), (2, .int (nI (pm_pf S k))), (3, .int (nI (pm_rl S k))), (4, .int (nI (pm_lm S k))), (5, .int (nI (pm_bc S 1 k))), (6, .int (nI (pm_bc S 2 k))), (7, .int (nI (pm_bc S 0 k))), (8, .int (nI k))]) hx hb dL_areFrames_37 hl (by decide) rfl (fun ls hl => ?_)
            refine lv_aload_n hx hb dL_areFrames_39 rfl (lv_at hl 1 rfl) ?_
            refine lv_iload hx hb dL_areFrames_40 (lv_at hl 9 rfl) ?_
            refine lv_iconst (v := nI 1) hx hb dL_areFrames_42 (by decide) ?_
            have hPc : va_P D vwCl (pm_cl y L S Bs pi kn Gs sv U) H := pq_kept hP0 hS
            refine vp_callSi (W.runV (As := [.int (nI k), .int (nI 1)]) (rest := []) ⟨hx, hb, hml, hown, hts⟩ (k_X3_of l D y L S Bs pi kn Gs sv U Bs Gs (nI k) (nI 1) hI.1) (cwV 2 hts gL_areFrames_X3_of rfl rfl rfl hd_X3_of ⟨Nat.le_of_ble_eq_true rfl, Nat.le_of_ble_eq_true rfl⟩) ⟨pm_ro_blind, va_recv hK hPc (ci := 3) (q0 := 0) rfl rfl, pm_ro_pre hPc hK⟩ rfl rfl hl.1 rfl (lv_room (Nat.le_of_ble_eq_true rfl)) dL_areFrames_43 ⟨Nat.le_of_ble_eq_true rfl, Nat.le_of_ble_eq_true rfl⟩) (fun r440 h441 => ?_)
            obtain rfl : r440 = nI (pm_tk (S 4 k)) := h441.trans (pq_of1 (by omega))
            have := pm_tk8 (S 4 k)
            refine lv_istore (lv' := [(10, .int (nI (pm_tk (S 4 k)))), (9, .int (nI 1)), (0, .ref (L 0 0)), (1, .ref aw), (2, .int (nI (pm_pf S k))), (3, .int (nI (pm_rl S k))), (4, .int (nI (pm_lm S k))), (5, .int (nI (pm_bc S 1 k))), (6, .int (nI (pm_bc S 2 k))), (7, .int (nI (pm_bc S 0 k))), (8, .int (nI k))]) hx hb dL_areFrames_46 hl (by decide) rfl (fun ls hl => ?_)
            refine lv_aload_n hx hb dL_areFrames_48 rfl (lv_at hl 2 rfl) ?_
            refine lv_iload hx hb dL_areFrames_49 (lv_at hl 10 rfl) ?_
            refine lv_iconst (v := nI 2) hx hb dL_areFrames_51 (by decide) ?_
            have hPc : va_P D vwCl (pm_cl y L S Bs pi kn Gs sv U) H := pq_kept hP0 hS
            refine vp_callSi (W.runV (As := [.int (nI k), .int (nI 2)]) (rest := []) ⟨hx, hb, hml, hown, hts⟩ (k_X3_of l D y L S Bs pi kn Gs sv U Bs Gs (nI k) (nI 2) hI.1) (cwV 2 hts gL_areFrames_X3_of rfl rfl rfl hd_X3_of ⟨Nat.le_of_ble_eq_true rfl, Nat.le_of_ble_eq_true rfl⟩) ⟨pm_ro_blind, va_recv hK hPc (ci := 3) (q0 := 0) rfl rfl, pm_ro_pre hPc hK⟩ rfl rfl hl.1 rfl (lv_room (Nat.le_of_ble_eq_true rfl)) dL_areFrames_52 ⟨Nat.le_of_ble_eq_true rfl, Nat.le_of_ble_eq_true rfl⟩) (fun r442 h443 => ?_)
            obtain rfl : r442 = nI (pm_ck (S 4 k)) := h443.trans (pq_of2 (by omega))
            have := pm_ck8 (S 4 k)
            refine lv_istore (lv' := [(11, .int (nI (pm_ck (S 4 k)))), (10, .int (nI (pm_tk (S 4 k)))), (9, .int (nI 1)), (0, .ref (L 0 0)), (1, .ref aw), (2, .int (nI (pm_pf S k))), (3, .int (nI (pm_rl S k))), (4, .int (nI (pm_lm S k))), (5, .int (nI (pm_bc S 1 k))), (6, .int (nI (pm_bc S 2 k))), (7, .int (nI (pm_bc S 0 k))), (8, .int (nI k))]) hx hb dL_areFrames_55 hl (by decide) rfl (fun ls hl => ?_)
            refine lv_aload_n hx hb dL_areFrames_57 rfl (lv_at hl 3 rfl) ?_
            refine lv_iload hx hb dL_areFrames_58 (lv_at hl 11 rfl) ?_
            refine lv_iconst (v := nI 4) hx hb dL_areFrames_60 (by decide) ?_
            have hPc : va_P D vwCl (pm_cl y L S Bs pi kn Gs sv U) H := pq_kept hP0 hS
            refine vp_callSi (W.runV (As := [.int (nI k), .int (nI 4)]) (rest := []) ⟨hx, hb, hml, hown, hts⟩ (k_X3_of l D y L S Bs pi kn Gs sv U Bs Gs (nI k) (nI 4) hI.1) (cwV 2 hts gL_areFrames_X3_of rfl rfl rfl hd_X3_of ⟨Nat.le_of_ble_eq_true rfl, Nat.le_of_ble_eq_true rfl⟩) ⟨pm_ro_blind, va_recv hK hPc (ci := 3) (q0 := 0) rfl rfl, pm_ro_pre hPc hK⟩ rfl rfl hl.1 rfl (lv_room (Nat.le_of_ble_eq_true rfl)) dL_areFrames_61 ⟨Nat.le_of_ble_eq_true rfl, Nat.le_of_ble_eq_true rfl⟩) (fun r444 h445 => ?_)
            obtain rfl : r444 = nI (S 2 k) := h445.trans (pq_of4 (by omega))
            have := hI.1.size k (by omega)
            refine lv_istore (lv' := [(12, .int (nI (S 2 k))), (11, .int (nI (pm_ck (S 4 k)))), (10, .int (nI (pm_tk (S 4 k)))), (9, .int (nI 1)), (0, .ref (L 0 0)), (1, .ref aw), (2, .int (nI (pm_pf S k))), (3, .int (nI (pm_rl S k))), (4, .int (nI (pm_lm S k))), (5, .int (nI (pm_bc S 1 k))), (6, .int (nI (pm_bc S 2 k))), (7, .int (nI (pm_bc S 0 k))), (8, .int (nI k))]) hx hb dL_areFrames_64 hl (by decide) rfl (fun ls hl => ?_)
            refine lv_iload hx hb dL_areFrames_66 (lv_at hl 3 rfl) ?_
            refine lv_iconst (v := nI 1) hx hb dL_areFrames_68 (by decide) ?_
            refine lv_icmp_eq (tgt := 78) hx hb dL_areFrames_69 (by decide) (fun _ => ?_) (fun c446 => (c446 (by decide)).elim)
            refine lv_iconst (v := nI 1) hx hb dL_areFrames_78 (by decide) ?_
            refine lv_goto (tgt := 83) hx hb dL_areFrames_79 (by decide) ?_
            refine lv_istore (lv' := [(13, .int (nI 1)), (12, .int (nI (S 2 k))), (11, .int (nI (pm_ck (S 4 k)))), (10, .int (nI (pm_tk (S 4 k)))), (9, .int (nI 1)), (0, .ref (L 0 0)), (1, .ref aw), (2, .int (nI (pm_pf S k))), (3, .int (nI (pm_rl S k))), (4, .int (nI (pm_lm S k))), (5, .int (nI (pm_bc S 1 k))), (6, .int (nI (pm_bc S 2 k))), (7, .int (nI (pm_bc S 0 k))), (8, .int (nI k))]) hx hb dL_areFrames_83 hl (by decide) rfl (fun ls hl => ?_)
            refine lv_iload hx hb dL_areFrames_85 (lv_at hl 4 rfl) ?_
            refine lv_if_lt (tgt := 180) hx hb dL_areFrames_87 (by decide) (fun c447 => absurd c447 (by decide)) (fun _ => ?_)
            refine lv_iload hx hb dL_areFrames_90 (lv_at hl 4 rfl) ?_
            refine lv_iconst (v := nI 4) hx hb dL_areFrames_92 (by decide) ?_
            refine lv_icmp_ge (tgt := 180) hx hb dL_areFrames_93 (by decide) (fun c448 => absurd c448 (by decide)) (fun _ => ?_)
            refine lv_iload hx hb dL_areFrames_96 (lv_at hl 3 rfl) ?_
            refine lv_iload hx hb dL_areFrames_98 (lv_at hl 2 rfl) ?_
            refine lv_iand hx hb dL_areFrames_100 ?_
            refine lv_topi (fun x449 e450 => ?_)
            obtain rfl : x449 = nI 0 := e450.trans (pq_and (hI.1.okm k hk))
            refine lv_if_ne (tgt := 180) hx hb dL_areFrames_101 (by decide) (fun c451 => (c451 (by decide)).elim) (fun _ => ?_)
            refine lv_iload hx hb dL_areFrames_104 (lv_at hl 4 rfl) ?_
            refine lv_if_eq (tgt := 117) hx hb dL_areFrames_106 (by decide) (fun c452 => absurd c452 (by decide)) (fun _ => ?_)
            refine lv_iload hx hb dL_areFrames_109 (lv_at hl 3 rfl) ?_
            refine lv_iload hx hb dL_areFrames_111 (lv_at hl 2 rfl) ?_
            refine kx_iadd hx hb dL_areFrames_113 ?_
            refine kx_if_ne (tgt := 180) hx hb (by omega) dL_areFrames_114 (by decide) (fun c453 => by exfalso; omega) (fun c453 => ?_)
            refine lv_iload hx hb dL_areFrames_117 (lv_at hl 0 rfl) ?_
            refine lv_if_eq (tgt := 161) hx hb dL_areFrames_119 (by decide) (fun c454 => absurd c454 (by decide)) (fun _ => ?_)
            refine lv_iload hx hb dL_areFrames_122 (lv_at hl 1 rfl) ?_
            refine kx_if_le (tgt := 180) hx hb (by omega) dL_areFrames_124 (by decide) (fun c455 => by exfalso; omega) (fun c455 => ?_)
            refine lv_iload hx hb dL_areFrames_127 (lv_at hl 1 rfl) ?_
            refine lv_iconst (v := nI 4) hx hb dL_areFrames_129 (by decide) ?_
            refine kx_icmp_ge (tgt := 180) hx hb (by omega) (by decide) dL_areFrames_130 (by decide) (fun c456 => by exfalso; omega) (fun c456 => ?_)
            refine lv_aload_n hx hb dL_areFrames_133 rfl (lv_at hl 5 rfl) ?_
            refine lv_iload hx hb dL_areFrames_134 (lv_at hl 13 rfl) ?_
            refine lv_iconst (v := nI 5) hx hb dL_areFrames_136 (by decide) ?_
            have hPc : va_P D vwCl (pm_cl y L S Bs pi kn Gs sv U) H := pq_kept hP0 hS
            refine vp_callSi (W.runV (As := [.int (nI k), .int (nI 5)]) (rest := []) ⟨hx, hb, hml, hown, hts⟩ (k_X3_of l D y L S Bs pi kn Gs sv U Bs Gs (nI k) (nI 5) hI.1) (cwV 2 hts gL_areFrames_X3_of rfl rfl rfl hd_X3_of ⟨Nat.le_of_ble_eq_true rfl, Nat.le_of_ble_eq_true rfl⟩) ⟨pm_ro_blind, va_recv hK hPc (ci := 3) (q0 := 0) rfl rfl, pm_ro_pre hPc hK⟩ rfl rfl hl.1 rfl (lv_room (Nat.le_of_ble_eq_true rfl)) dL_areFrames_137 ⟨Nat.le_of_ble_eq_true rfl, Nat.le_of_ble_eq_true rfl⟩) (fun r457 h458 => ?_)
            obtain rfl : r457 = pm_ci (S 3 k) := h458.trans (pq_of5 (by omega))
            have := hI.1.chi k (by omega)
            have := hI.1.rnd
            refine lv_topi (fun x459 e460 => ?_)
            obtain rfl : x459 = nI (S 3 k - 1) := e460.trans (pm_ci_p (by omega))
            refine kx_if_lt (tgt := 180) hx hb (by omega) dL_areFrames_140 (by decide) ?_
            refine lv_aload_n hx hb dL_areFrames_143 rfl (lv_at hl 5 rfl) ?_
            refine lv_iload hx hb dL_areFrames_144 (lv_at hl 13 rfl) ?_
            refine lv_iconst (v := nI 5) hx hb dL_areFrames_146 (by decide) ?_
            have hPc : va_P D vwCl (pm_cl y L S Bs pi kn Gs sv U) H := pq_kept hP0 hS
            refine vp_callSi (W.runV (As := [.int (nI k), .int (nI 5)]) (rest := []) ⟨hx, hb, hml, hown, hts⟩ (k_X3_of l D y L S Bs pi kn Gs sv U Bs Gs (nI k) (nI 5) hI.1) (cwV 2 hts gL_areFrames_X3_of rfl rfl rfl hd_X3_of ⟨Nat.le_of_ble_eq_true rfl, Nat.le_of_ble_eq_true rfl⟩) ⟨pm_ro_blind, va_recv hK hPc (ci := 3) (q0 := 0) rfl rfl, pm_ro_pre hPc hK⟩ rfl rfl hl.1 rfl (lv_room (Nat.le_of_ble_eq_true rfl)) dL_areFrames_147 ⟨Nat.le_of_ble_eq_true rfl, Nat.le_of_ble_eq_true rfl⟩) (fun r461 h462 => ?_)
            obtain rfl : r461 = pm_ci (S 3 k) := h462.trans (pq_of5 (by omega))
            have := hI.1.chi k (by omega)
            have := hI.1.rnd
            refine lv_topi (fun x463 e464 => ?_)
            obtain rfl : x463 = nI (S 3 k - 1) := e464.trans (pm_ci_p (by omega))
            refine lv_aload_n hx hb dL_areFrames_150 rfl (lv_at hl 5 rfl) ?_
            refine lv_iconst (v := nI 0) hx hb dL_areFrames_151 (by decide) ?_
            have hPc : va_P D vwCl (pm_cl y L S Bs pi kn Gs sv U) H := pq_kept hP0 hS
            refine vp_callSi (W.runV (As := [.int (nI 0)]) (rest := [.int (nI (S 3 k - 1))]) ⟨hx, hb, hml, hown, hts⟩ (k_X3_count l D y L S Bs pi kn Gs sv U Bs Gs (nI 0) hI.1) (cwV 1 hts gL_areFrames_X3_count rfl rfl rfl hd_X3_count ⟨Nat.le_of_ble_eq_true rfl, Nat.le_of_ble_eq_true rfl⟩) ⟨pm_ron_blind, va_recv hK hPc (ci := 3) (q0 := 0) rfl rfl, pm_ron_pre hPc hK hN⟩ rfl rfl hl.1 rfl (lv_room (Nat.le_of_ble_eq_true rfl)) dL_areFrames_152 ⟨Nat.le_of_ble_eq_true rfl, Nat.le_of_ble_eq_true rfl⟩) (fun r465 h466 => ?_)
            obtain rfl : r465 = nI (S 10 0) := h466.trans (pq_co0)
            have := hI.1.rnd
            refine kx_icmp_ge (tgt := 180) hx hb (by omega) (by omega) dL_areFrames_155 (by decide) (fun c467 => by exfalso; omega) (fun c467 => ?_)
            refine lv_goto (tgt := 166) hx hb dL_areFrames_158 (by decide) ?_
            refine lv_aload_n hx hb dL_areFrames_166 rfl (lv_at hl 5 rfl) ?_
            refine lv_iload hx hb dL_areFrames_167 (lv_at hl 13 rfl) ?_
            refine lv_iconst (v := nI 3) hx hb dL_areFrames_169 (by decide) ?_
            have hPc : va_P D vwCl (pm_cl y L S Bs pi kn Gs sv U) H := pq_kept hP0 hS
            refine vp_callSi (W.runV (As := [.int (nI k), .int (nI 3)]) (rest := []) ⟨hx, hb, hml, hown, hts⟩ (k_X3_of l D y L S Bs pi kn Gs sv U Bs Gs (nI k) (nI 3) hI.1) (cwV 2 hts gL_areFrames_X3_of rfl rfl rfl hd_X3_of ⟨Nat.le_of_ble_eq_true rfl, Nat.le_of_ble_eq_true rfl⟩) ⟨pm_ro_blind, va_recv hK hPc (ci := 3) (q0 := 0) rfl rfl, pm_ro_pre hPc hK⟩ rfl rfl hl.1 rfl (lv_room (Nat.le_of_ble_eq_true rfl)) dL_areFrames_170 ⟨Nat.le_of_ble_eq_true rfl, Nat.le_of_ble_eq_true rfl⟩) (fun r468 h469 => ?_)
            obtain rfl : r468 = nI (S 1 k) := h469.trans (pq_of3 (by omega))
            have := hI.1.dull k (by omega)
            have := hI.1.rnd
            refine kx_if_lt (tgt := 180) hx hb (by omega) dL_areFrames_173 (by decide) ?_
            refine lv_iconst (v := nI 1) hx hb dL_areFrames_176 (by decide) ?_
            refine lv_goto (tgt := 181) hx hb dL_areFrames_177 (by decide) ?_
            refine lv_istore (lv' := [(14, .int (nI 1)), (13, .int (nI 1)), (12, .int (nI (S 2 k))), (11, .int (nI (pm_ck (S 4 k)))), (10, .int (nI (pm_tk (S 4 k)))), (9, .int (nI 1)), (0, .ref (L 0 0)), (1, .ref aw), (2, .int (nI (pm_pf S k))), (3, .int (nI (pm_rl S k))), (4, .int (nI (pm_lm S k))), (5, .int (nI (pm_bc S 1 k))), (6, .int (nI (pm_bc S 2 k))), (7, .int (nI (pm_bc S 0 k))), (8, .int (nI k))]) hx hb dL_areFrames_181 hl (by decide) rfl (fun ls hl => ?_)
            refine lv_iload hx hb dL_areFrames_183 (lv_at hl 5 rfl) ?_
            refine lv_if_eq (tgt := 192) hx hb dL_areFrames_185 (by decide) (fun c470 => absurd c470 (by decide)) (fun _ => ?_)
            refine lv_iconst (v := nI 1) hx hb dL_areFrames_188 (by decide) ?_
            refine lv_goto (tgt := 220) hx hb dL_areFrames_189 (by decide) ?_
            refine lv_istore (lv' := [(15, .int (nI 1)), (14, .int (nI 1)), (13, .int (nI 1)), (12, .int (nI (S 2 k))), (11, .int (nI (pm_ck (S 4 k)))), (10, .int (nI (pm_tk (S 4 k)))), (9, .int (nI 1)), (0, .ref (L 0 0)), (1, .ref aw), (2, .int (nI (pm_pf S k))), (3, .int (nI (pm_rl S k))), (4, .int (nI (pm_lm S k))), (5, .int (nI (pm_bc S 1 k))), (6, .int (nI (pm_bc S 2 k))), (7, .int (nI (pm_bc S 0 k))), (8, .int (nI k))]) hx hb dL_areFrames_220 hl (by decide) rfl (fun ls hl => ?_)
            refine lv_iload hx hb dL_areFrames_222 (lv_at hl 1 rfl) ?_
            refine lv_if_eq (tgt := 252) hx hb dL_areFrames_224 (by decide) (fun c471 => absurd c471 (by decide)) (fun _ => ?_)
            refine lv_aload_n hx hb dL_areFrames_227 rfl (lv_at hl 7 rfl) ?_
            refine lv_iload hx hb dL_areFrames_228 (lv_at hl 15 rfl) ?_
            have hPc : va_P D vwCl (pm_cl y L S Bs pi kn Gs sv U) H := pq_kept hP0 hS
            refine vp_callSi (W.runV (As := [.int (nI k)]) (rest := []) ⟨hx, hb, hml, hown, hts⟩ (k_X3_why l D y L S Bs pi kn Gs sv U Bs Gs (nI k) hI.1) (cwV 1 hts gL_areFrames_X3_why rfl rfl rfl hd_X3_why ⟨Nat.le_of_ble_eq_true rfl, Nat.le_of_ble_eq_true rfl⟩) ⟨pm_ro_blind, va_recv hK hPc (ci := 3) (q0 := 0) rfl rfl, pm_ro_pre hPc hK⟩ rfl rfl hl.1 rfl (lv_room (Nat.le_of_ble_eq_true rfl)) dL_areFrames_230 ⟨Nat.le_of_ble_eq_true rfl, Nat.le_of_ble_eq_true rfl⟩) (fun r472 h473 => ?_)
            obtain rfl : r472 = nI 1 := h473.trans (hw)
            refine lv_iload hx hb dL_areFrames_233 (lv_at hl 0 rfl) ?_
            refine lv_icmp_ne (tgt := 252) hx hb dL_areFrames_235 (by decide) (fun c474 => (c474 (by decide)).elim) (fun _ => ?_)
            refine lv_iload hx hb dL_areFrames_238 (lv_at hl 6 rfl) ?_
            refine lv_if_eq (tgt := 254) hx hb dL_areFrames_240 (by decide) (fun c475 => absurd c475 (by decide)) (fun _ => ?_)
            refine lv_aload_n hx hb dL_areFrames_243 rfl (lv_at hl 7 rfl) ?_
            refine lv_iload hx hb dL_areFrames_244 (lv_at hl 15 rfl) ?_
            have hPc : va_P D vwCl (pm_cl y L S Bs pi kn Gs sv U) H := pq_kept hP0 hS
            refine vp_callSi (W.runV (As := [.int (nI k)]) (rest := []) ⟨hx, hb, hml, hown, hts⟩ (k_X3_decides l D y L S Bs pi kn Gs sv U Bs Gs (nI k) hI.1) (cwV 1 hts gL_areFrames_X3_decides rfl rfl rfl hd_X3_decides ⟨Nat.le_of_ble_eq_true rfl, Nat.le_of_ble_eq_true rfl⟩) ⟨pm_ro_blind, va_recv hK hPc (ci := 3) (q0 := 0) rfl rfl, pm_ro_pre hPc hK⟩ rfl rfl hl.1 rfl (lv_room (Nat.le_of_ble_eq_true rfl)) dL_areFrames_246 ⟨Nat.le_of_ble_eq_true rfl, Nat.le_of_ble_eq_true rfl⟩) (fun r476 h477 => ?_)
            obtain rfl : r476 = nI (pm_ds S k 3) := h477.trans (pq_dec (by omega))
            have := pm_ds_lt S k 3
            refine lv_topi (fun x478 e479 => ?_)
            obtain rfl : x478 = nI 0 := e479.trans (congrArg nI (pq_ds0 (by omega) 3))
            refine lv_if_eq (tgt := 254) hx hb dL_areFrames_249 (by decide) (fun _ => ?_) (fun c480 => (c480 (by decide)).elim)
            refine lv_aload_n hx hb dL_areFrames_254 rfl (lv_at hl 8 rfl) ?_
            refine lv_iload hx hb dL_areFrames_255 (lv_at hl 6 rfl) ?_
            refine lv_dup2_11 hx hb dL_areFrames_257 rfl rfl ?_
            refine kx_iald (v := nI (pm_hm S 1 k)) hx hb hK hP 0 0 rfl rfl (by decide) (by decide) rfl dL_areFrames_258 ?_
            refine lv_iconst (v := nI 1) hx hb dL_areFrames_259 (by decide) ?_
            refine kx_iadd hx hb dL_areFrames_260 ?_
            refine kx_iast (ws' := [(aw, .inl (y 0, 4, .inl (pm_vn (fun j => pm_hm S j (k + 1)))))]) hx hb hK hP hD hS 0 0 rfl rfl (by decide) (by decide) (pq_how h0) rfl dL_areFrames_261 (fun H locs hP hD hS => ?_)
            refine lv_iload_n hx hb dL_areFrames_262 rfl (lv_at hl 9 rfl) ?_
            refine lv_iload hx hb dL_areFrames_263 (lv_at hl 6 rfl) ?_
            refine lv_iconst (v := nI 1) hx hb dL_areFrames_265 (by decide) ?_
            refine lv_icmp_ne (tgt := 280) hx hb dL_areFrames_266 (by decide) (fun c481 => (c481 (by decide)).elim) (fun _ => ?_)
            refine lv_bipush (v := nI 10) hx hb dL_areFrames_269 (by decide) ?_
            refine lv_iload hx hb dL_areFrames_271 (lv_at hl 3 rfl) ?_
            refine kx_imul hx hb dL_areFrames_273 ?_
            refine lv_iload hx hb dL_areFrames_274 (lv_at hl 3 rfl) ?_
            refine kx_imul hx hb dL_areFrames_276 ?_
            refine lv_goto (tgt := 281) hx hb dL_areFrames_277 (by decide) ?_
            refine kx_iadd hx hb dL_areFrames_281 ?_
            refine lv_istore_n (lv' := [(2, .int (nI ((pm_pf S k) + ((10 * (S 2 k)) * (S 2 k))))), (15, .int (nI 1)), (14, .int (nI 1)), (13, .int (nI 1)), (12, .int (nI (S 2 k))), (11, .int (nI (pm_ck (S 4 k)))), (10, .int (nI (pm_tk (S 4 k)))), (9, .int (nI 1)), (0, .ref (L 0 0)), (1, .ref aw), (3, .int (nI (pm_rl S k))), (4, .int (nI (pm_lm S k))), (5, .int (nI (pm_bc S 1 k))), (6, .int (nI (pm_bc S 2 k))), (7, .int (nI (pm_bc S 0 k))), (8, .int (nI k))]) hx hb dL_areFrames_282 rfl hl (by decide) rfl (fun ls hl => ?_)
            refine lv_iload hx hb dL_areFrames_283 (lv_at hl 3 rfl) ?_
            refine lv_if_ne (tgt := 292) hx hb dL_areFrames_285 (by decide) (fun _ => ?_) (fun c482 => absurd c482 (by decide))
            refine lv_iload hx hb dL_areFrames_292 (lv_at hl 15 rfl) ?_
            refine lv_bipush (v := nI 6) hx hb dL_areFrames_294 (by decide) ?_
            refine kx_irem hx hb (by omega) (by omega) (by omega) dL_areFrames_296 ?_
            refine kx_if_ne (tgt := 304) hx hb (by omega) dL_areFrames_297 (by decide) (fun c483 => ?_) (fun c483 => by exfalso; omega)
            refine lv_iload_n hx hb dL_areFrames_304 rfl (lv_at hl 10 rfl) ?_
            refine lv_iconst (v := nI 1) hx hb dL_areFrames_305 (by decide) ?_
            refine kx_iadd hx hb dL_areFrames_306 ?_
            refine lv_istore_n (lv' := [(3, .int (nI ((pm_rl S k) + 1))), (2, .int (nI ((pm_pf S k) + ((10 * (S 2 k)) * (S 2 k))))), (15, .int (nI 1)), (14, .int (nI 1)), (13, .int (nI 1)), (12, .int (nI (S 2 k))), (11, .int (nI (pm_ck (S 4 k)))), (10, .int (nI (pm_tk (S 4 k)))), (9, .int (nI 1)), (0, .ref (L 0 0)), (1, .ref aw), (4, .int (nI (pm_lm S k))), (5, .int (nI (pm_bc S 1 k))), (6, .int (nI (pm_bc S 2 k))), (7, .int (nI (pm_bc S 0 k))), (8, .int (nI k))]) hx hb dL_areFrames_307 rfl hl (by decide) rfl (fun ls hl => ?_)
            refine lv_iload_n hx hb dL_areFrames_308 rfl (lv_at hl 0 rfl) ?_
            refine lv_iload hx hb dL_areFrames_309 (lv_at hl 11 rfl) ?_
            refine kx_icmp_le (tgt := 318) hx hb (by omega) (by omega) dL_areFrames_311 (by decide) (fun c484 => ?_) (fun c484 => ?_)
            · skip
              refine lv_iload hx hb dL_areFrames_318 (lv_at hl 11 rfl) ?_
              refine lv_istore (lv' := [(4, .int (nI (pm_lm S k))), (3, .int (nI ((pm_rl S k) + 1))), (2, .int (nI ((pm_pf S k) + ((10 * (S 2 k)) * (S 2 k))))), (15, .int (nI 1)), (14, .int (nI 1)), (13, .int (nI 1)), (12, .int (nI (S 2 k))), (11, .int (nI (pm_ck (S 4 k)))), (10, .int (nI (pm_tk (S 4 k)))), (9, .int (nI 1)), (0, .ref (L 0 0)), (1, .ref aw), (5, .int (nI (pm_bc S 1 k))), (6, .int (nI (pm_bc S 2 k))), (7, .int (nI (pm_bc S 0 k))), (8, .int (nI k))]) hx hb dL_areFrames_320 hl (by decide) rfl (fun ls hl => ?_)
              refine lv_iload hx hb dL_areFrames_322 (lv_at hl 8 rfl) ?_
              refine lv_iload hx hb dL_areFrames_324 (lv_at hl 7 rfl) ?_
              refine kx_iadd hx hb dL_areFrames_326 ?_
              refine kx_if_ne (tgt := 334) hx hb (by omega) dL_areFrames_327 (by decide) (fun c485 => by exfalso; omega) (fun c485 => ?_)
              refine lv_iconst (v := nI 1) hx hb dL_areFrames_330 (by decide) ?_
              refine lv_goto (tgt := 335) hx hb dL_areFrames_331 (by decide) ?_
              refine lv_istore (lv' := [(16, .int (nI 1)), (4, .int (nI (pm_lm S k))), (3, .int (nI ((pm_rl S k) + 1))), (2, .int (nI ((pm_pf S k) + ((10 * (S 2 k)) * (S 2 k))))), (15, .int (nI 1)), (14, .int (nI 1)), (13, .int (nI 1)), (12, .int (nI (S 2 k))), (11, .int (nI (pm_ck (S 4 k)))), (10, .int (nI (pm_tk (S 4 k)))), (9, .int (nI 1)), (0, .ref (L 0 0)), (1, .ref aw), (5, .int (nI (pm_bc S 1 k))), (6, .int (nI (pm_bc S 2 k))), (7, .int (nI (pm_bc S 0 k))), (8, .int (nI k))]) hx hb dL_areFrames_335 hl (by decide) rfl (fun ls hl => ?_)
              refine lv_iload hx hb dL_areFrames_337 (lv_at hl 10 rfl) ?_
              refine lv_if_ne (tgt := 393) hx hb dL_areFrames_339 (by decide) (fun _ => ?_) (fun c486 => absurd c486 (by decide))
              refine lv_iconst (v := nI 0) hx hb dL_areFrames_393 (by decide) ?_
              refine lv_istore (lv' := [(17, .int (nI 0)), (16, .int (nI 1)), (4, .int (nI (pm_lm S k))), (3, .int (nI ((pm_rl S k) + 1))), (2, .int (nI ((pm_pf S k) + ((10 * (S 2 k)) * (S 2 k))))), (15, .int (nI 1)), (14, .int (nI 1)), (13, .int (nI 1)), (12, .int (nI (S 2 k))), (11, .int (nI (pm_ck (S 4 k)))), (10, .int (nI (pm_tk (S 4 k)))), (9, .int (nI 1)), (0, .ref (L 0 0)), (1, .ref aw), (5, .int (nI (pm_bc S 1 k))), (6, .int (nI (pm_bc S 2 k))), (7, .int (nI (pm_bc S 0 k))), (8, .int (nI k))]) hx hb dL_areFrames_394 hl (by decide) rfl (fun ls hl => ?_)
              refine lv_iload hx hb dL_areFrames_396 (lv_at hl 14 rfl) ?_
              refine lv_iload hx hb dL_areFrames_398 (lv_at hl 5 rfl) ?_
              refine lv_if_ne (tgt := 407) hx hb dL_areFrames_400 (by decide) (fun _ => ?_) (fun c487 => absurd c487 (by decide))
              refine lv_iconst (v := nI 0) hx hb dL_areFrames_407 (by decide) ?_
              refine kx_iadd hx hb dL_areFrames_408 ?_
              refine lv_istore (lv' := [(5, .int (nI ((pm_bc S 1 k) + 0))), (17, .int (nI 0)), (16, .int (nI 1)), (4, .int (nI (pm_lm S k))), (3, .int (nI ((pm_rl S k) + 1))), (2, .int (nI ((pm_pf S k) + ((10 * (S 2 k)) * (S 2 k))))), (15, .int (nI 1)), (14, .int (nI 1)), (13, .int (nI 1)), (12, .int (nI (S 2 k))), (11, .int (nI (pm_ck (S 4 k)))), (10, .int (nI (pm_tk (S 4 k)))), (9, .int (nI 1)), (0, .ref (L 0 0)), (1, .ref aw), (6, .int (nI (pm_bc S 2 k))), (7, .int (nI (pm_bc S 0 k))), (8, .int (nI k))]) hx hb dL_areFrames_409 hl (by decide) rfl (fun ls hl => ?_)
              refine lv_iload hx hb dL_areFrames_411 (lv_at hl 15 rfl) ?_
              refine lv_iload hx hb dL_areFrames_413 (lv_at hl 1 rfl) ?_
              refine lv_if_eq (tgt := 422) hx hb dL_areFrames_415 (by decide) (fun _ => ?_) (fun c488 => (c488 (by decide)).elim)
              refine lv_iconst (v := nI 0) hx hb dL_areFrames_422 (by decide) ?_
              refine kx_iadd hx hb dL_areFrames_423 ?_
              refine lv_istore (lv' := [(6, .int (nI ((pm_bc S 2 k) + 0))), (5, .int (nI ((pm_bc S 1 k) + 0))), (17, .int (nI 0)), (16, .int (nI 1)), (4, .int (nI (pm_lm S k))), (3, .int (nI ((pm_rl S k) + 1))), (2, .int (nI ((pm_pf S k) + ((10 * (S 2 k)) * (S 2 k))))), (15, .int (nI 1)), (14, .int (nI 1)), (13, .int (nI 1)), (12, .int (nI (S 2 k))), (11, .int (nI (pm_ck (S 4 k)))), (10, .int (nI (pm_tk (S 4 k)))), (9, .int (nI 1)), (0, .ref (L 0 0)), (1, .ref aw), (7, .int (nI (pm_bc S 0 k))), (8, .int (nI k))]) hx hb dL_areFrames_424 hl (by decide) rfl (fun ls hl => ?_)
              refine lv_iload hx hb dL_areFrames_426 (lv_at hl 16 rfl) ?_
              refine lv_iload hx hb dL_areFrames_428 (lv_at hl 13 rfl) ?_
              refine lv_if_ne (tgt := 447) hx hb dL_areFrames_430 (by decide) (fun _ => ?_) (fun c489 => absurd c489 (by decide))
              refine lv_iconst (v := nI 0) hx hb dL_areFrames_447 (by decide) ?_
              refine kx_iadd hx hb dL_areFrames_448 ?_
              refine lv_istore (lv' := [(7, .int (nI ((pm_bc S 0 k) + 0))), (6, .int (nI ((pm_bc S 2 k) + 0))), (5, .int (nI ((pm_bc S 1 k) + 0))), (17, .int (nI 0)), (16, .int (nI 1)), (4, .int (nI (pm_lm S k))), (3, .int (nI ((pm_rl S k) + 1))), (2, .int (nI ((pm_pf S k) + ((10 * (S 2 k)) * (S 2 k))))), (15, .int (nI 1)), (14, .int (nI 1)), (13, .int (nI 1)), (12, .int (nI (S 2 k))), (11, .int (nI (pm_ck (S 4 k)))), (10, .int (nI (pm_tk (S 4 k)))), (9, .int (nI 1)), (0, .ref (L 0 0)), (1, .ref aw), (8, .int (nI k))]) hx hb dL_areFrames_449 hl (by decide) rfl (fun ls hl => ?_)
              refine kx_iinc (a := k) (lv' := [(8, .int (nI (k + 1))), (7, .int (nI ((pm_bc S 0 k) + 0))), (6, .int (nI ((pm_bc S 2 k) + 0))), (5, .int (nI ((pm_bc S 1 k) + 0))), (17, .int (nI 0)), (16, .int (nI 1)), (4, .int (nI (pm_lm S k))), (3, .int (nI ((pm_rl S k) + 1))), (2, .int (nI ((pm_pf S k) + ((10 * (S 2 k)) * (S 2 k))))), (15, .int (nI 1)), (14, .int (nI 1)), (13, .int (nI 1)), (12, .int (nI (S 2 k))), (11, .int (nI (pm_ck (S 4 k)))), (10, .int (nI (pm_tk (S 4 k)))), (9, .int (nI 1)), (0, .ref (L 0 0)), (1, .ref aw)]) hx hb dL_areFrames_451 hl (k := 17) rfl (by decide) rfl (fun ls hl => ?_)
              refine lv_goto (tgt := 23) hx hb dL_areFrames_454 (by decide) ?_
              have q490 : (nI (pm_pf S (k + 1)) : Int32) = nI ((pm_pf S k) + ((10 * (S 2 k)) * (S 2 k))) := (congrArg nI (pm_pf_p h0))
              have q491 : (nI (pm_rl S (k + 1)) : Int32) = nI ((pm_rl S k) + 1) := (congrArg nI hrl)
              have q492 : (nI (pm_lm S (k + 1)) : Int32) = nI (pm_lm S k) := (congrArg nI (by rw [pq_lm hrl]; split <;> omega))
              have q493 : (nI (pm_bc S 1 (k + 1)) : Int32) = nI ((pm_bc S 1 k) + 0) := (congrArg nI (pq_bcn (by omega) 1))
              have q494 : (nI (pm_bc S 2 (k + 1)) : Int32) = nI ((pm_bc S 2 k) + 0) := (congrArg nI (pq_bcn (by omega) 2))
              have q495 : (nI (pm_bc S 0 (k + 1)) : Int32) = nI ((pm_bc S 0 k) + 0) := (congrArg nI (pq_bcn (by omega) 0))
              exact ih3 (k + 1) ls H locs hP hD hS (by omega) (by omega) (by rw [q490, q491, q492, q493, q494, q495]; exact lv_sub hl [16, 17, 8, 7, 6, 3, 2, 1, 0] rfl) 
            · skip
              refine lv_iload_n hx hb dL_areFrames_314 rfl (lv_at hl 0 rfl) ?_
              refine lv_goto (tgt := 320) hx hb dL_areFrames_315 (by decide) ?_
              refine lv_istore (lv' := [(4, .int (nI ((pm_rl S k) + 1))), (3, .int (nI ((pm_rl S k) + 1))), (2, .int (nI ((pm_pf S k) + ((10 * (S 2 k)) * (S 2 k))))), (15, .int (nI 1)), (14, .int (nI 1)), (13, .int (nI 1)), (12, .int (nI (S 2 k))), (11, .int (nI (pm_ck (S 4 k)))), (10, .int (nI (pm_tk (S 4 k)))), (9, .int (nI 1)), (0, .ref (L 0 0)), (1, .ref aw), (5, .int (nI (pm_bc S 1 k))), (6, .int (nI (pm_bc S 2 k))), (7, .int (nI (pm_bc S 0 k))), (8, .int (nI k))]) hx hb dL_areFrames_320 hl (by decide) rfl (fun ls hl => ?_)
              refine lv_iload hx hb dL_areFrames_322 (lv_at hl 8 rfl) ?_
              refine lv_iload hx hb dL_areFrames_324 (lv_at hl 7 rfl) ?_
              refine kx_iadd hx hb dL_areFrames_326 ?_
              refine kx_if_ne (tgt := 334) hx hb (by omega) dL_areFrames_327 (by decide) (fun c496 => by exfalso; omega) (fun c496 => ?_)
              refine lv_iconst (v := nI 1) hx hb dL_areFrames_330 (by decide) ?_
              refine lv_goto (tgt := 335) hx hb dL_areFrames_331 (by decide) ?_
              refine lv_istore (lv' := [(16, .int (nI 1)), (4, .int (nI ((pm_rl S k) + 1))), (3, .int (nI ((pm_rl S k) + 1))), (2, .int (nI ((pm_pf S k) + ((10 * (S 2 k)) * (S 2 k))))), (15, .int (nI 1)), (14, .int (nI 1)), (13, .int (nI 1)), (12, .int (nI (S 2 k))), (11, .int (nI (pm_ck (S 4 k)))), (10, .int (nI (pm_tk (S 4 k)))), (9, .int (nI 1)), (0, .ref (L 0 0)), (1, .ref aw), (5, .int (nI (pm_bc S 1 k))), (6, .int (nI (pm_bc S 2 k))), (7, .int (nI (pm_bc S 0 k))), (8, .int (nI k))]) hx hb dL_areFrames_335 hl (by decide) rfl (fun ls hl => ?_)
              refine lv_iload hx hb dL_areFrames_337 (lv_at hl 10 rfl) ?_
              refine lv_if_ne (tgt := 393) hx hb dL_areFrames_339 (by decide) (fun _ => ?_) (fun c497 => absurd c497 (by decide))
              refine lv_iconst (v := nI 0) hx hb dL_areFrames_393 (by decide) ?_
              refine lv_istore (lv' := [(17, .int (nI 0)), (16, .int (nI 1)), (4, .int (nI ((pm_rl S k) + 1))), (3, .int (nI ((pm_rl S k) + 1))), (2, .int (nI ((pm_pf S k) + ((10 * (S 2 k)) * (S 2 k))))), (15, .int (nI 1)), (14, .int (nI 1)), (13, .int (nI 1)), (12, .int (nI (S 2 k))), (11, .int (nI (pm_ck (S 4 k)))), (10, .int (nI (pm_tk (S 4 k)))), (9, .int (nI 1)), (0, .ref (L 0 0)), (1, .ref aw), (5, .int (nI (pm_bc S 1 k))), (6, .int (nI (pm_bc S 2 k))), (7, .int (nI (pm_bc S 0 k))), (8, .int (nI k))]) hx hb dL_areFrames_394 hl (by decide) rfl (fun ls hl => ?_)
              refine lv_iload hx hb dL_areFrames_396 (lv_at hl 14 rfl) ?_
              refine lv_iload hx hb dL_areFrames_398 (lv_at hl 5 rfl) ?_
              refine lv_if_ne (tgt := 407) hx hb dL_areFrames_400 (by decide) (fun _ => ?_) (fun c498 => absurd c498 (by decide))
              refine lv_iconst (v := nI 0) hx hb dL_areFrames_407 (by decide) ?_
              refine kx_iadd hx hb dL_areFrames_408 ?_
              refine lv_istore (lv' := [(5, .int (nI ((pm_bc S 1 k) + 0))), (17, .int (nI 0)), (16, .int (nI 1)), (4, .int (nI ((pm_rl S k) + 1))), (3, .int (nI ((pm_rl S k) + 1))), (2, .int (nI ((pm_pf S k) + ((10 * (S 2 k)) * (S 2 k))))), (15, .int (nI 1)), (14, .int (nI 1)), (13, .int (nI 1)), (12, .int (nI (S 2 k))), (11, .int (nI (pm_ck (S 4 k)))), (10, .int (nI (pm_tk (S 4 k)))), (9, .int (nI 1)), (0, .ref (L 0 0)), (1, .ref aw), (6, .int (nI (pm_bc S 2 k))), (7, .int (nI (pm_bc S 0 k))), (8, .int (nI k))]) hx hb dL_areFrames_409 hl (by decide) rfl (fun ls hl => ?_)
              refine lv_iload hx hb dL_areFrames_411 (lv_at hl 15 rfl) ?_
              refine lv_iload hx hb dL_areFrames_413 (lv_at hl 1 rfl) ?_
              refine lv_if_eq (tgt := 422) hx hb dL_areFrames_415 (by decide) (fun _ => ?_) (fun c499 => (c499 (by decide)).elim)
              refine lv_iconst (v := nI 0) hx hb dL_areFrames_422 (by decide) ?_
              refine kx_iadd hx hb dL_areFrames_423 ?_
              refine lv_istore (lv' := [(6, .int (nI ((pm_bc S 2 k) + 0))), (5, .int (nI ((pm_bc S 1 k) + 0))), (17, .int (nI 0)), (16, .int (nI 1)), (4, .int (nI ((pm_rl S k) + 1))), (3, .int (nI ((pm_rl S k) + 1))), (2, .int (nI ((pm_pf S k) + ((10 * (S 2 k)) * (S 2 k))))), (15, .int (nI 1)), (14, .int (nI 1)), (13, .int (nI 1)), (12, .int (nI (S 2 k))), (11, .int (nI (pm_ck (S 4 k)))), (10, .int (nI (pm_tk (S 4 k)))), (9, .int (nI 1)), (0, .ref (L 0 0)), (1, .ref aw), (7, .int (nI (pm_bc S 0 k))), (8, .int (nI k))]) hx hb dL_areFrames_424 hl (by decide) rfl (fun ls hl => ?_)
              refine lv_iload hx hb dL_areFrames_426 (lv_at hl 16 rfl) ?_
              refine lv_iload hx hb dL_areFrames_428 (lv_at hl 13 rfl) ?_
              refine lv_if_ne (tgt := 447) hx hb dL_areFrames_430 (by decide) (fun _ => ?_) (fun c500 => absurd c500 (by decide))
              refine lv_iconst (v := nI 0) hx hb dL_areFrames_447 (by decide) ?_
              refine kx_iadd hx hb dL_areFrames_448 ?_
              refine lv_istore (lv' := [(7, .int (nI ((pm_bc S 0 k) + 0))), (6, .int (nI ((pm_bc S 2 k) + 0))), (5, .int (nI ((pm_bc S 1 k) + 0))), (17, .int (nI 0)), (16, .int (nI 1)), (4, .int (nI ((pm_rl S k) + 1))), (3, .int (nI ((pm_rl S k) + 1))), (2, .int (nI ((pm_pf S k) + ((10 * (S 2 k)) * (S 2 k))))), (15, .int (nI 1)), (14, .int (nI 1)), (13, .int (nI 1)), (12, .int (nI (S 2 k))), (11, .int (nI (pm_ck (S 4 k)))), (10, .int (nI (pm_tk (S 4 k)))), (9, .int (nI 1)), (0, .ref (L 0 0)), (1, .ref aw), (8, .int (nI k))]) hx hb dL_areFrames_449 hl (by decide) rfl (fun ls hl => ?_)
              refine kx_iinc (a := k) (lv' := [(8, .int (nI (k + 1))), (7, .int (nI ((pm_bc S 0 k) + 0))), (6, .int (nI ((pm_bc S 2 k) + 0))), (5, .int (nI ((pm_bc S 1 k) + 0))), (17, .int (nI 0)), (16, .int (nI 1)), (4, .int (nI ((pm_rl S k) + 1))), (3, .int (nI ((pm_rl S k) + 1))), (2, .int (nI ((pm_pf S k) + ((10 * (S 2 k)) * (S 2 k))))), (15, .int (nI 1)), (14, .int (nI 1)), (13, .int (nI 1)), (12, .int (nI (S 2 k))), (11, .int (nI (pm_ck (S 4 k)))), (10, .int (nI (pm_tk (S 4 k)))), (9, .int (nI 1)), (0, .ref (L 0 0)), (1, .ref aw)]) hx hb dL_areFrames_451 hl (k := 17) rfl (by decide) rfl (fun ls hl => ?_)
              refine lv_goto (tgt := 23) hx hb dL_areFrames_454 (by decide) ?_
              have q501 : (nI (pm_pf S (k + 1)) : Int32) = nI ((pm_pf S k) + ((10 * (S 2 k)) * (S 2 k))) := (congrArg nI (pm_pf_p h0))
              have q502 : (nI (pm_rl S (k + 1)) : Int32) = nI ((pm_rl S k) + 1) := (congrArg nI hrl)
              have q503 : (nI (pm_lm S (k + 1)) : Int32) = nI ((pm_rl S k) + 1) := (congrArg nI (by rw [pq_lm hrl]; split <;> omega))
              have q504 : (nI (pm_bc S 1 (k + 1)) : Int32) = nI ((pm_bc S 1 k) + 0) := (congrArg nI (pq_bcn (by omega) 1))
              have q505 : (nI (pm_bc S 2 (k + 1)) : Int32) = nI ((pm_bc S 2 k) + 0) := (congrArg nI (pq_bcn (by omega) 2))
              have q506 : (nI (pm_bc S 0 (k + 1)) : Int32) = nI ((pm_bc S 0 k) + 0) := (congrArg nI (pq_bcn (by omega) 0))
              exact ih3 (k + 1) ls H locs hP hD hS (by omega) (by omega) (by rw [q501, q502, q503, q504, q505, q506]; exact lv_sub hl [16, 17, 8, 7, 6, 3, 2, 1, 0] rfl) 
        · obtain ⟨hm4, htk, hck, hw⟩ := pq_shut hI hk (by omega)
          have hz := hsz.2 (by omega)
          have hrl := pq_rl0 (S := S) (k := k) (by omega)
          refine lv_aload_n hx hb dL_areFrames_30 rfl (lv_at hl 0 rfl) ?_
          refine lv_iload hx hb dL_areFrames_31 (lv_at hl 8 rfl) ?_
          refine lv_iconst (v := nI 0) hx hb dL_areFrames_33 (by decide) ?_
          have hPc : va_P D vwCl (pm_cl y L S Bs pi kn Gs sv U) H := pq_kept hP0 hS
          refine vp_callSi (W.runV (As := [.int (nI k), .int (nI 0)]) (rest := []) ⟨hx, hb, hml, hown, hts⟩ (k_X3_of l D y L S Bs pi kn Gs sv U Bs Gs (nI k) (nI 0) hI.1) (cwV 2 hts gL_areFrames_X3_of rfl rfl rfl hd_X3_of ⟨Nat.le_of_ble_eq_true rfl, Nat.le_of_ble_eq_true rfl⟩) ⟨pm_ro_blind, va_recv hK hPc (ci := 3) (q0 := 0) rfl rfl, pm_ro_pre hPc hK⟩ rfl rfl hl.1 rfl (lv_room (Nat.le_of_ble_eq_true rfl)) dL_areFrames_34 ⟨Nat.le_of_ble_eq_true rfl, Nat.le_of_ble_eq_true rfl⟩) (fun r507 h508 => ?_)
          obtain rfl : r507 = nI 2 := h508.trans ((pq_of0 (by omega)).trans (congrArg nI h0))
          refine lv_istore (lv' := [(9, .int (nI 2)), (0, .ref (L 0 0)), (1, .ref aw), (2, .int (nI (pm_pf S k))), (3, .int (nI (pm_rl S k))), (4, .int (nI (pm_lm S k))), (5, .int (nI (pm_bc S 1 k))), (6, .int (nI (pm_bc S 2 k))), (7, .int (nI (pm_bc S 0 k))), (8, .int (nI k))]) hx hb dL_areFrames_37 hl (by decide) rfl (fun ls hl => ?_)
          refine lv_aload_n hx hb dL_areFrames_39 rfl (lv_at hl 1 rfl) ?_
          refine lv_iload hx hb dL_areFrames_40 (lv_at hl 9 rfl) ?_
          refine lv_iconst (v := nI 1) hx hb dL_areFrames_42 (by decide) ?_
          have hPc : va_P D vwCl (pm_cl y L S Bs pi kn Gs sv U) H := pq_kept hP0 hS
          refine vp_callSi (W.runV (As := [.int (nI k), .int (nI 1)]) (rest := []) ⟨hx, hb, hml, hown, hts⟩ (k_X3_of l D y L S Bs pi kn Gs sv U Bs Gs (nI k) (nI 1) hI.1) (cwV 2 hts gL_areFrames_X3_of rfl rfl rfl hd_X3_of ⟨Nat.le_of_ble_eq_true rfl, Nat.le_of_ble_eq_true rfl⟩) ⟨pm_ro_blind, va_recv hK hPc (ci := 3) (q0 := 0) rfl rfl, pm_ro_pre hPc hK⟩ rfl rfl hl.1 rfl (lv_room (Nat.le_of_ble_eq_true rfl)) dL_areFrames_43 ⟨Nat.le_of_ble_eq_true rfl, Nat.le_of_ble_eq_true rfl⟩) (fun r509 h510 => ?_)
          obtain rfl : r509 = nI (pm_tk (S 4 k)) := h510.trans (pq_of1 (by omega))
          have := pm_tk8 (S 4 k)
          refine lv_istore (lv' := [(10, .int (nI (pm_tk (S 4 k)))), (9, .int (nI 2)), (0, .ref (L 0 0)), (1, .ref aw), (2, .int (nI (pm_pf S k))), (3, .int (nI (pm_rl S k))), (4, .int (nI (pm_lm S k))), (5, .int (nI (pm_bc S 1 k))), (6, .int (nI (pm_bc S 2 k))), (7, .int (nI (pm_bc S 0 k))), (8, .int (nI k))]) hx hb dL_areFrames_46 hl (by decide) rfl (fun ls hl => ?_)
          refine lv_aload_n hx hb dL_areFrames_48 rfl (lv_at hl 2 rfl) ?_
          refine lv_iload hx hb dL_areFrames_49 (lv_at hl 10 rfl) ?_
          refine lv_iconst (v := nI 2) hx hb dL_areFrames_51 (by decide) ?_
          have hPc : va_P D vwCl (pm_cl y L S Bs pi kn Gs sv U) H := pq_kept hP0 hS
          refine vp_callSi (W.runV (As := [.int (nI k), .int (nI 2)]) (rest := []) ⟨hx, hb, hml, hown, hts⟩ (k_X3_of l D y L S Bs pi kn Gs sv U Bs Gs (nI k) (nI 2) hI.1) (cwV 2 hts gL_areFrames_X3_of rfl rfl rfl hd_X3_of ⟨Nat.le_of_ble_eq_true rfl, Nat.le_of_ble_eq_true rfl⟩) ⟨pm_ro_blind, va_recv hK hPc (ci := 3) (q0 := 0) rfl rfl, pm_ro_pre hPc hK⟩ rfl rfl hl.1 rfl (lv_room (Nat.le_of_ble_eq_true rfl)) dL_areFrames_52 ⟨Nat.le_of_ble_eq_true rfl, Nat.le_of_ble_eq_true rfl⟩) (fun r511 h512 => ?_)
          obtain rfl : r511 = nI (pm_ck (S 4 k)) := h512.trans (pq_of2 (by omega))
          have := pm_ck8 (S 4 k)
          refine lv_istore (lv' := [(11, .int (nI (pm_ck (S 4 k)))), (10, .int (nI (pm_tk (S 4 k)))), (9, .int (nI 2)), (0, .ref (L 0 0)), (1, .ref aw), (2, .int (nI (pm_pf S k))), (3, .int (nI (pm_rl S k))), (4, .int (nI (pm_lm S k))), (5, .int (nI (pm_bc S 1 k))), (6, .int (nI (pm_bc S 2 k))), (7, .int (nI (pm_bc S 0 k))), (8, .int (nI k))]) hx hb dL_areFrames_55 hl (by decide) rfl (fun ls hl => ?_)
          refine lv_aload_n hx hb dL_areFrames_57 rfl (lv_at hl 3 rfl) ?_
          refine lv_iload hx hb dL_areFrames_58 (lv_at hl 11 rfl) ?_
          refine lv_iconst (v := nI 4) hx hb dL_areFrames_60 (by decide) ?_
          have hPc : va_P D vwCl (pm_cl y L S Bs pi kn Gs sv U) H := pq_kept hP0 hS
          refine vp_callSi (W.runV (As := [.int (nI k), .int (nI 4)]) (rest := []) ⟨hx, hb, hml, hown, hts⟩ (k_X3_of l D y L S Bs pi kn Gs sv U Bs Gs (nI k) (nI 4) hI.1) (cwV 2 hts gL_areFrames_X3_of rfl rfl rfl hd_X3_of ⟨Nat.le_of_ble_eq_true rfl, Nat.le_of_ble_eq_true rfl⟩) ⟨pm_ro_blind, va_recv hK hPc (ci := 3) (q0 := 0) rfl rfl, pm_ro_pre hPc hK⟩ rfl rfl hl.1 rfl (lv_room (Nat.le_of_ble_eq_true rfl)) dL_areFrames_61 ⟨Nat.le_of_ble_eq_true rfl, Nat.le_of_ble_eq_true rfl⟩) (fun r513 h514 => ?_)
          obtain rfl : r513 = nI (S 2 k) := h514.trans (pq_of4 (by omega))
          have := hI.1.size k (by omega)
          refine lv_istore (lv' := [(12, .int (nI (S 2 k))), (11, .int (nI (pm_ck (S 4 k)))), (10, .int (nI (pm_tk (S 4 k)))), (9, .int (nI 2)), (0, .ref (L 0 0)), (1, .ref aw), (2, .int (nI (pm_pf S k))), (3, .int (nI (pm_rl S k))), (4, .int (nI (pm_lm S k))), (5, .int (nI (pm_bc S 1 k))), (6, .int (nI (pm_bc S 2 k))), (7, .int (nI (pm_bc S 0 k))), (8, .int (nI k))]) hx hb dL_areFrames_64 hl (by decide) rfl (fun ls hl => ?_)
          refine lv_iload hx hb dL_areFrames_66 (lv_at hl 3 rfl) ?_
          refine lv_iconst (v := nI 1) hx hb dL_areFrames_68 (by decide) ?_
          refine lv_icmp_eq (tgt := 78) hx hb dL_areFrames_69 (by decide) (fun c515 => absurd c515 (by decide)) (fun _ => ?_)
          refine lv_iload hx hb dL_areFrames_72 (lv_at hl 3 rfl) ?_
          refine lv_iconst (v := nI 3) hx hb dL_areFrames_74 (by decide) ?_
          refine lv_icmp_ne (tgt := 82) hx hb dL_areFrames_75 (by decide) (fun _ => ?_) (fun c516 => absurd c516 (by decide))
          refine lv_iconst (v := nI 0) hx hb dL_areFrames_82 (by decide) ?_
          refine lv_istore (lv' := [(13, .int (nI 0)), (12, .int (nI (S 2 k))), (11, .int (nI (pm_ck (S 4 k)))), (10, .int (nI (pm_tk (S 4 k)))), (9, .int (nI 2)), (0, .ref (L 0 0)), (1, .ref aw), (2, .int (nI (pm_pf S k))), (3, .int (nI (pm_rl S k))), (4, .int (nI (pm_lm S k))), (5, .int (nI (pm_bc S 1 k))), (6, .int (nI (pm_bc S 2 k))), (7, .int (nI (pm_bc S 0 k))), (8, .int (nI k))]) hx hb dL_areFrames_83 hl (by decide) rfl (fun ls hl => ?_)
          refine lv_iload hx hb dL_areFrames_85 (lv_at hl 4 rfl) ?_
          refine lv_if_lt (tgt := 180) hx hb dL_areFrames_87 (by decide) (fun c517 => absurd c517 (by decide)) (fun _ => ?_)
          refine lv_iload hx hb dL_areFrames_90 (lv_at hl 4 rfl) ?_
          refine lv_iconst (v := nI 4) hx hb dL_areFrames_92 (by decide) ?_
          refine lv_icmp_ge (tgt := 180) hx hb dL_areFrames_93 (by decide) (fun c518 => absurd c518 (by decide)) (fun _ => ?_)
          refine lv_iload hx hb dL_areFrames_96 (lv_at hl 3 rfl) ?_
          refine lv_iload hx hb dL_areFrames_98 (lv_at hl 2 rfl) ?_
          refine lv_iand hx hb dL_areFrames_100 ?_
          refine lv_topi (fun x519 e520 => ?_)
          obtain rfl : x519 = nI 0 := e520.trans (pq_and (hI.1.okm k hk))
          refine lv_if_ne (tgt := 180) hx hb dL_areFrames_101 (by decide) (fun c521 => (c521 (by decide)).elim) (fun _ => ?_)
          refine lv_iload hx hb dL_areFrames_104 (lv_at hl 4 rfl) ?_
          refine lv_if_eq (tgt := 117) hx hb dL_areFrames_106 (by decide) (fun c522 => absurd c522 (by decide)) (fun _ => ?_)
          refine lv_iload hx hb dL_areFrames_109 (lv_at hl 3 rfl) ?_
          refine lv_iload hx hb dL_areFrames_111 (lv_at hl 2 rfl) ?_
          refine kx_iadd hx hb dL_areFrames_113 ?_
          refine kx_if_ne (tgt := 180) hx hb (by omega) dL_areFrames_114 (by decide) (fun c523 => by exfalso; omega) (fun c523 => ?_)
          refine lv_iload hx hb dL_areFrames_117 (lv_at hl 0 rfl) ?_
          refine lv_if_eq (tgt := 161) hx hb dL_areFrames_119 (by decide) (fun _ => ?_) (fun c524 => (c524 (by decide)).elim)
          refine lv_iload hx hb dL_areFrames_161 (lv_at hl 1 rfl) ?_
          refine kx_if_ne (tgt := 180) hx hb (by omega) dL_areFrames_163 (by decide) (fun c525 => by exfalso; omega) (fun c525 => ?_)
          refine lv_aload_n hx hb dL_areFrames_166 rfl (lv_at hl 5 rfl) ?_
          refine lv_iload hx hb dL_areFrames_167 (lv_at hl 13 rfl) ?_
          refine lv_iconst (v := nI 3) hx hb dL_areFrames_169 (by decide) ?_
          have hPc : va_P D vwCl (pm_cl y L S Bs pi kn Gs sv U) H := pq_kept hP0 hS
          refine vp_callSi (W.runV (As := [.int (nI k), .int (nI 3)]) (rest := []) ⟨hx, hb, hml, hown, hts⟩ (k_X3_of l D y L S Bs pi kn Gs sv U Bs Gs (nI k) (nI 3) hI.1) (cwV 2 hts gL_areFrames_X3_of rfl rfl rfl hd_X3_of ⟨Nat.le_of_ble_eq_true rfl, Nat.le_of_ble_eq_true rfl⟩) ⟨pm_ro_blind, va_recv hK hPc (ci := 3) (q0 := 0) rfl rfl, pm_ro_pre hPc hK⟩ rfl rfl hl.1 rfl (lv_room (Nat.le_of_ble_eq_true rfl)) dL_areFrames_170 ⟨Nat.le_of_ble_eq_true rfl, Nat.le_of_ble_eq_true rfl⟩) (fun r526 h527 => ?_)
          obtain rfl : r526 = nI (S 1 k) := h527.trans (pq_of3 (by omega))
          have := hI.1.dull k (by omega)
          have := hI.1.rnd
          refine kx_if_lt (tgt := 180) hx hb (by omega) dL_areFrames_173 (by decide) ?_
          refine lv_iconst (v := nI 1) hx hb dL_areFrames_176 (by decide) ?_
          refine lv_goto (tgt := 181) hx hb dL_areFrames_177 (by decide) ?_
          refine lv_istore (lv' := [(14, .int (nI 1)), (13, .int (nI 0)), (12, .int (nI (S 2 k))), (11, .int (nI (pm_ck (S 4 k)))), (10, .int (nI (pm_tk (S 4 k)))), (9, .int (nI 2)), (0, .ref (L 0 0)), (1, .ref aw), (2, .int (nI (pm_pf S k))), (3, .int (nI (pm_rl S k))), (4, .int (nI (pm_lm S k))), (5, .int (nI (pm_bc S 1 k))), (6, .int (nI (pm_bc S 2 k))), (7, .int (nI (pm_bc S 0 k))), (8, .int (nI k))]) hx hb dL_areFrames_181 hl (by decide) rfl (fun ls hl => ?_)
          refine lv_iload hx hb dL_areFrames_183 (lv_at hl 5 rfl) ?_
          refine lv_if_eq (tgt := 192) hx hb dL_areFrames_185 (by decide) (fun c528 => absurd c528 (by decide)) (fun _ => ?_)
          refine lv_iconst (v := nI 1) hx hb dL_areFrames_188 (by decide) ?_
          refine lv_goto (tgt := 220) hx hb dL_areFrames_189 (by decide) ?_
          refine lv_istore (lv' := [(15, .int (nI 1)), (14, .int (nI 1)), (13, .int (nI 0)), (12, .int (nI (S 2 k))), (11, .int (nI (pm_ck (S 4 k)))), (10, .int (nI (pm_tk (S 4 k)))), (9, .int (nI 2)), (0, .ref (L 0 0)), (1, .ref aw), (2, .int (nI (pm_pf S k))), (3, .int (nI (pm_rl S k))), (4, .int (nI (pm_lm S k))), (5, .int (nI (pm_bc S 1 k))), (6, .int (nI (pm_bc S 2 k))), (7, .int (nI (pm_bc S 0 k))), (8, .int (nI k))]) hx hb dL_areFrames_220 hl (by decide) rfl (fun ls hl => ?_)
          refine lv_iload hx hb dL_areFrames_222 (lv_at hl 1 rfl) ?_
          refine lv_if_eq (tgt := 252) hx hb dL_areFrames_224 (by decide) (fun c529 => absurd c529 (by decide)) (fun _ => ?_)
          refine lv_aload_n hx hb dL_areFrames_227 rfl (lv_at hl 7 rfl) ?_
          refine lv_iload hx hb dL_areFrames_228 (lv_at hl 15 rfl) ?_
          have hPc : va_P D vwCl (pm_cl y L S Bs pi kn Gs sv U) H := pq_kept hP0 hS
          refine vp_callSi (W.runV (As := [.int (nI k)]) (rest := []) ⟨hx, hb, hml, hown, hts⟩ (k_X3_why l D y L S Bs pi kn Gs sv U Bs Gs (nI k) hI.1) (cwV 1 hts gL_areFrames_X3_why rfl rfl rfl hd_X3_why ⟨Nat.le_of_ble_eq_true rfl, Nat.le_of_ble_eq_true rfl⟩) ⟨pm_ro_blind, va_recv hK hPc (ci := 3) (q0 := 0) rfl rfl, pm_ro_pre hPc hK⟩ rfl rfl hl.1 rfl (lv_room (Nat.le_of_ble_eq_true rfl)) dL_areFrames_230 ⟨Nat.le_of_ble_eq_true rfl, Nat.le_of_ble_eq_true rfl⟩) (fun r530 h531 => ?_)
          obtain rfl : r530 = nI 1 := h531.trans (hw)
          refine lv_iload hx hb dL_areFrames_233 (lv_at hl 0 rfl) ?_
          refine lv_icmp_ne (tgt := 252) hx hb dL_areFrames_235 (by decide) (fun c532 => (c532 (by decide)).elim) (fun _ => ?_)
          refine lv_iload hx hb dL_areFrames_238 (lv_at hl 6 rfl) ?_
          refine lv_if_eq (tgt := 254) hx hb dL_areFrames_240 (by decide) (fun c533 => absurd c533 (by decide)) (fun _ => ?_)
          refine lv_aload_n hx hb dL_areFrames_243 rfl (lv_at hl 7 rfl) ?_
          refine lv_iload hx hb dL_areFrames_244 (lv_at hl 15 rfl) ?_
          have hPc : va_P D vwCl (pm_cl y L S Bs pi kn Gs sv U) H := pq_kept hP0 hS
          refine vp_callSi (W.runV (As := [.int (nI k)]) (rest := []) ⟨hx, hb, hml, hown, hts⟩ (k_X3_decides l D y L S Bs pi kn Gs sv U Bs Gs (nI k) hI.1) (cwV 1 hts gL_areFrames_X3_decides rfl rfl rfl hd_X3_decides ⟨Nat.le_of_ble_eq_true rfl, Nat.le_of_ble_eq_true rfl⟩) ⟨pm_ro_blind, va_recv hK hPc (ci := 3) (q0 := 0) rfl rfl, pm_ro_pre hPc hK⟩ rfl rfl hl.1 rfl (lv_room (Nat.le_of_ble_eq_true rfl)) dL_areFrames_246 ⟨Nat.le_of_ble_eq_true rfl, Nat.le_of_ble_eq_true rfl⟩) (fun r534 h535 => ?_)
          obtain rfl : r534 = nI (pm_ds S k 3) := h535.trans (pq_dec (by omega))
          have := pm_ds_lt S k 3
          refine lv_topi (fun x536 e537 => ?_)
          obtain rfl : x536 = nI 0 := e537.trans (congrArg nI (pq_ds0 (by omega) 3))
          refine lv_if_eq (tgt := 254) hx hb dL_areFrames_249 (by decide) (fun _ => ?_) (fun c538 => (c538 (by decide)).elim)
          refine lv_aload_n hx hb dL_areFrames_254 rfl (lv_at hl 8 rfl) ?_
          refine lv_iload hx hb dL_areFrames_255 (lv_at hl 6 rfl) ?_
          refine lv_dup2_11 hx hb dL_areFrames_257 rfl rfl ?_
          refine kx_iald (v := nI (pm_hm S 2 k)) hx hb hK hP 0 0 rfl rfl (by decide) (by decide) rfl dL_areFrames_258 ?_
          refine lv_iconst (v := nI 1) hx hb dL_areFrames_259 (by decide) ?_
          refine kx_iadd hx hb dL_areFrames_260 ?_
          refine kx_iast (ws' := [(aw, .inl (y 0, 4, .inl (pm_vn (fun j => pm_hm S j (k + 1)))))]) hx hb hK hP hD hS 0 0 rfl rfl (by decide) (by decide) (pq_how h0) rfl dL_areFrames_261 (fun H locs hP hD hS => ?_)
          refine lv_iload_n hx hb dL_areFrames_262 rfl (lv_at hl 9 rfl) ?_
          refine lv_iload hx hb dL_areFrames_263 (lv_at hl 6 rfl) ?_
          refine lv_iconst (v := nI 1) hx hb dL_areFrames_265 (by decide) ?_
          refine lv_icmp_ne (tgt := 280) hx hb dL_areFrames_266 (by decide) (fun _ => ?_) (fun c539 => absurd c539 (by decide))
          refine lv_iconst (v := nI 0) hx hb dL_areFrames_280 (by decide) ?_
          refine kx_iadd hx hb dL_areFrames_281 ?_
          refine lv_istore_n (lv' := [(2, .int (nI ((pm_pf S k) + 0))), (15, .int (nI 1)), (14, .int (nI 1)), (13, .int (nI 0)), (12, .int (nI (S 2 k))), (11, .int (nI (pm_ck (S 4 k)))), (10, .int (nI (pm_tk (S 4 k)))), (9, .int (nI 2)), (0, .ref (L 0 0)), (1, .ref aw), (3, .int (nI (pm_rl S k))), (4, .int (nI (pm_lm S k))), (5, .int (nI (pm_bc S 1 k))), (6, .int (nI (pm_bc S 2 k))), (7, .int (nI (pm_bc S 0 k))), (8, .int (nI k))]) hx hb dL_areFrames_282 rfl hl (by decide) rfl (fun ls hl => ?_)
          refine lv_iload hx hb dL_areFrames_283 (lv_at hl 3 rfl) ?_
          refine lv_if_ne (tgt := 292) hx hb dL_areFrames_285 (by decide) (fun c540 => (c540 (by decide)).elim) (fun _ => ?_)
          refine lv_iconst (v := nI 0) hx hb dL_areFrames_288 (by decide) ?_
          refine lv_goto (tgt := 307) hx hb dL_areFrames_289 (by decide) ?_
          refine lv_istore_n (lv' := [(3, .int (nI 0)), (2, .int (nI ((pm_pf S k) + 0))), (15, .int (nI 1)), (14, .int (nI 1)), (13, .int (nI 0)), (12, .int (nI (S 2 k))), (11, .int (nI (pm_ck (S 4 k)))), (10, .int (nI (pm_tk (S 4 k)))), (9, .int (nI 2)), (0, .ref (L 0 0)), (1, .ref aw), (4, .int (nI (pm_lm S k))), (5, .int (nI (pm_bc S 1 k))), (6, .int (nI (pm_bc S 2 k))), (7, .int (nI (pm_bc S 0 k))), (8, .int (nI k))]) hx hb dL_areFrames_307 rfl hl (by decide) rfl (fun ls hl => ?_)
          refine lv_iload_n hx hb dL_areFrames_308 rfl (lv_at hl 0 rfl) ?_
          refine lv_iload hx hb dL_areFrames_309 (lv_at hl 11 rfl) ?_
          refine kx_icmp_le (tgt := 318) hx hb (by decide) (by omega) dL_areFrames_311 (by decide) (fun c541 => ?_) (fun c541 => by exfalso; omega)
          refine lv_iload hx hb dL_areFrames_318 (lv_at hl 11 rfl) ?_
          refine lv_istore (lv' := [(4, .int (nI (pm_lm S k))), (3, .int (nI 0)), (2, .int (nI ((pm_pf S k) + 0))), (15, .int (nI 1)), (14, .int (nI 1)), (13, .int (nI 0)), (12, .int (nI (S 2 k))), (11, .int (nI (pm_ck (S 4 k)))), (10, .int (nI (pm_tk (S 4 k)))), (9, .int (nI 2)), (0, .ref (L 0 0)), (1, .ref aw), (5, .int (nI (pm_bc S 1 k))), (6, .int (nI (pm_bc S 2 k))), (7, .int (nI (pm_bc S 0 k))), (8, .int (nI k))]) hx hb dL_areFrames_320 hl (by decide) rfl (fun ls hl => ?_)
          refine lv_iload hx hb dL_areFrames_322 (lv_at hl 8 rfl) ?_
          refine lv_iload hx hb dL_areFrames_324 (lv_at hl 7 rfl) ?_
          refine kx_iadd hx hb dL_areFrames_326 ?_
          refine kx_if_ne (tgt := 334) hx hb (by omega) dL_areFrames_327 (by decide) (fun c542 => by exfalso; omega) (fun c542 => ?_)
          refine lv_iconst (v := nI 1) hx hb dL_areFrames_330 (by decide) ?_
          refine lv_goto (tgt := 335) hx hb dL_areFrames_331 (by decide) ?_
          refine lv_istore (lv' := [(16, .int (nI 1)), (4, .int (nI (pm_lm S k))), (3, .int (nI 0)), (2, .int (nI ((pm_pf S k) + 0))), (15, .int (nI 1)), (14, .int (nI 1)), (13, .int (nI 0)), (12, .int (nI (S 2 k))), (11, .int (nI (pm_ck (S 4 k)))), (10, .int (nI (pm_tk (S 4 k)))), (9, .int (nI 2)), (0, .ref (L 0 0)), (1, .ref aw), (5, .int (nI (pm_bc S 1 k))), (6, .int (nI (pm_bc S 2 k))), (7, .int (nI (pm_bc S 0 k))), (8, .int (nI k))]) hx hb dL_areFrames_335 hl (by decide) rfl (fun ls hl => ?_)
          refine lv_iload hx hb dL_areFrames_337 (lv_at hl 10 rfl) ?_
          refine lv_if_ne (tgt := 393) hx hb dL_areFrames_339 (by decide) (fun _ => ?_) (fun c543 => absurd c543 (by decide))
          refine lv_iconst (v := nI 0) hx hb dL_areFrames_393 (by decide) ?_
          refine lv_istore (lv' := [(17, .int (nI 0)), (16, .int (nI 1)), (4, .int (nI (pm_lm S k))), (3, .int (nI 0)), (2, .int (nI ((pm_pf S k) + 0))), (15, .int (nI 1)), (14, .int (nI 1)), (13, .int (nI 0)), (12, .int (nI (S 2 k))), (11, .int (nI (pm_ck (S 4 k)))), (10, .int (nI (pm_tk (S 4 k)))), (9, .int (nI 2)), (0, .ref (L 0 0)), (1, .ref aw), (5, .int (nI (pm_bc S 1 k))), (6, .int (nI (pm_bc S 2 k))), (7, .int (nI (pm_bc S 0 k))), (8, .int (nI k))]) hx hb dL_areFrames_394 hl (by decide) rfl (fun ls hl => ?_)
          refine lv_iload hx hb dL_areFrames_396 (lv_at hl 14 rfl) ?_
          refine lv_iload hx hb dL_areFrames_398 (lv_at hl 5 rfl) ?_
          refine lv_if_ne (tgt := 407) hx hb dL_areFrames_400 (by decide) (fun _ => ?_) (fun c544 => absurd c544 (by decide))
          refine lv_iconst (v := nI 0) hx hb dL_areFrames_407 (by decide) ?_
          refine kx_iadd hx hb dL_areFrames_408 ?_
          refine lv_istore (lv' := [(5, .int (nI ((pm_bc S 1 k) + 0))), (17, .int (nI 0)), (16, .int (nI 1)), (4, .int (nI (pm_lm S k))), (3, .int (nI 0)), (2, .int (nI ((pm_pf S k) + 0))), (15, .int (nI 1)), (14, .int (nI 1)), (13, .int (nI 0)), (12, .int (nI (S 2 k))), (11, .int (nI (pm_ck (S 4 k)))), (10, .int (nI (pm_tk (S 4 k)))), (9, .int (nI 2)), (0, .ref (L 0 0)), (1, .ref aw), (6, .int (nI (pm_bc S 2 k))), (7, .int (nI (pm_bc S 0 k))), (8, .int (nI k))]) hx hb dL_areFrames_409 hl (by decide) rfl (fun ls hl => ?_)
          refine lv_iload hx hb dL_areFrames_411 (lv_at hl 15 rfl) ?_
          refine lv_iload hx hb dL_areFrames_413 (lv_at hl 1 rfl) ?_
          refine lv_if_eq (tgt := 422) hx hb dL_areFrames_415 (by decide) (fun _ => ?_) (fun c545 => (c545 (by decide)).elim)
          refine lv_iconst (v := nI 0) hx hb dL_areFrames_422 (by decide) ?_
          refine kx_iadd hx hb dL_areFrames_423 ?_
          refine lv_istore (lv' := [(6, .int (nI ((pm_bc S 2 k) + 0))), (5, .int (nI ((pm_bc S 1 k) + 0))), (17, .int (nI 0)), (16, .int (nI 1)), (4, .int (nI (pm_lm S k))), (3, .int (nI 0)), (2, .int (nI ((pm_pf S k) + 0))), (15, .int (nI 1)), (14, .int (nI 1)), (13, .int (nI 0)), (12, .int (nI (S 2 k))), (11, .int (nI (pm_ck (S 4 k)))), (10, .int (nI (pm_tk (S 4 k)))), (9, .int (nI 2)), (0, .ref (L 0 0)), (1, .ref aw), (7, .int (nI (pm_bc S 0 k))), (8, .int (nI k))]) hx hb dL_areFrames_424 hl (by decide) rfl (fun ls hl => ?_)
          refine lv_iload hx hb dL_areFrames_426 (lv_at hl 16 rfl) ?_
          refine lv_iload hx hb dL_areFrames_428 (lv_at hl 13 rfl) ?_
          refine lv_if_ne (tgt := 447) hx hb dL_areFrames_430 (by decide) (fun _ => ?_) (fun c546 => absurd c546 (by decide))
          refine lv_iconst (v := nI 0) hx hb dL_areFrames_447 (by decide) ?_
          refine kx_iadd hx hb dL_areFrames_448 ?_
          refine lv_istore (lv' := [(7, .int (nI ((pm_bc S 0 k) + 0))), (6, .int (nI ((pm_bc S 2 k) + 0))), (5, .int (nI ((pm_bc S 1 k) + 0))), (17, .int (nI 0)), (16, .int (nI 1)), (4, .int (nI (pm_lm S k))), (3, .int (nI 0)), (2, .int (nI ((pm_pf S k) + 0))), (15, .int (nI 1)), (14, .int (nI 1)), (13, .int (nI 0)), (12, .int (nI (S 2 k))), (11, .int (nI (pm_ck (S 4 k)))), (10, .int (nI (pm_tk (S 4 k)))), (9, .int (nI 2)), (0, .ref (L 0 0)), (1, .ref aw), (8, .int (nI k))]) hx hb dL_areFrames_449 hl (by decide) rfl (fun ls hl => ?_)
          refine kx_iinc (a := k) (lv' := [(8, .int (nI (k + 1))), (7, .int (nI ((pm_bc S 0 k) + 0))), (6, .int (nI ((pm_bc S 2 k) + 0))), (5, .int (nI ((pm_bc S 1 k) + 0))), (17, .int (nI 0)), (16, .int (nI 1)), (4, .int (nI (pm_lm S k))), (3, .int (nI 0)), (2, .int (nI ((pm_pf S k) + 0))), (15, .int (nI 1)), (14, .int (nI 1)), (13, .int (nI 0)), (12, .int (nI (S 2 k))), (11, .int (nI (pm_ck (S 4 k)))), (10, .int (nI (pm_tk (S 4 k)))), (9, .int (nI 2)), (0, .ref (L 0 0)), (1, .ref aw)]) hx hb dL_areFrames_451 hl (k := 17) rfl (by decide) rfl (fun ls hl => ?_)
          refine lv_goto (tgt := 23) hx hb dL_areFrames_454 (by decide) ?_
          have q547 : (nI (pm_pf S (k + 1)) : Int32) = nI ((pm_pf S k) + 0) := (congrArg nI (pm_pf_n (by omega)))
          have q548 : (nI (pm_rl S (k + 1)) : Int32) = nI 0 := (congrArg nI hrl)
          have q549 : (nI (pm_lm S (k + 1)) : Int32) = nI (pm_lm S k) := (congrArg nI (by rw [pq_lm hrl]; split <;> omega))
          have q550 : (nI (pm_bc S 1 (k + 1)) : Int32) = nI ((pm_bc S 1 k) + 0) := (congrArg nI (pq_bcn (by omega) 1))
          have q551 : (nI (pm_bc S 2 (k + 1)) : Int32) = nI ((pm_bc S 2 k) + 0) := (congrArg nI (pq_bcn (by omega) 2))
          have q552 : (nI (pm_bc S 0 (k + 1)) : Int32) = nI ((pm_bc S 0 k) + 0) := (congrArg nI (pq_bcn (by omega) 0))
          exact ih3 (k + 1) ls H locs hP hD hS (by omega) (by omega) (by rw [q547, q548, q549, q550, q551, q552]; exact lv_sub hl [16, 17, 8, 7, 6, 3, 2, 1, 0] rfl) 
        · obtain ⟨hm4, htk, hck, hw⟩ := pq_shut hI hk (by omega)
          by_cases h6 : k % 6 = 0
          · have hrl := pq_rl1 (S := S) (by omega) h6
            refine lv_aload_n hx hb dL_areFrames_30 rfl (lv_at hl 0 rfl) ?_
            refine lv_iload hx hb dL_areFrames_31 (lv_at hl 8 rfl) ?_
            refine lv_iconst (v := nI 0) hx hb dL_areFrames_33 (by decide) ?_
            have hPc : va_P D vwCl (pm_cl y L S Bs pi kn Gs sv U) H := pq_kept hP0 hS
            refine vp_callSi (W.runV (As := [.int (nI k), .int (nI 0)]) (rest := []) ⟨hx, hb, hml, hown, hts⟩ (k_X3_of l D y L S Bs pi kn Gs sv U Bs Gs (nI k) (nI 0) hI.1) (cwV 2 hts gL_areFrames_X3_of rfl rfl rfl hd_X3_of ⟨Nat.le_of_ble_eq_true rfl, Nat.le_of_ble_eq_true rfl⟩) ⟨pm_ro_blind, va_recv hK hPc (ci := 3) (q0 := 0) rfl rfl, pm_ro_pre hPc hK⟩ rfl rfl hl.1 rfl (lv_room (Nat.le_of_ble_eq_true rfl)) dL_areFrames_34 ⟨Nat.le_of_ble_eq_true rfl, Nat.le_of_ble_eq_true rfl⟩) (fun r553 h554 => ?_)
            obtain rfl : r553 = nI 3 := h554.trans ((pq_of0 (by omega)).trans (congrArg nI h0))
            refine lv_istore (lv' := [(9, .int (nI 3)), (0, .ref (L 0 0)), (1, .ref aw), (2, .int (nI (pm_pf S k))), (3, .int (nI (pm_rl S k))), (4, .int (nI (pm_lm S k))), (5, .int (nI (pm_bc S 1 k))), (6, .int (nI (pm_bc S 2 k))), (7, .int (nI (pm_bc S 0 k))), (8, .int (nI k))]) hx hb dL_areFrames_37 hl (by decide) rfl (fun ls hl => ?_)
            refine lv_aload_n hx hb dL_areFrames_39 rfl (lv_at hl 1 rfl) ?_
            refine lv_iload hx hb dL_areFrames_40 (lv_at hl 9 rfl) ?_
            refine lv_iconst (v := nI 1) hx hb dL_areFrames_42 (by decide) ?_
            have hPc : va_P D vwCl (pm_cl y L S Bs pi kn Gs sv U) H := pq_kept hP0 hS
            refine vp_callSi (W.runV (As := [.int (nI k), .int (nI 1)]) (rest := []) ⟨hx, hb, hml, hown, hts⟩ (k_X3_of l D y L S Bs pi kn Gs sv U Bs Gs (nI k) (nI 1) hI.1) (cwV 2 hts gL_areFrames_X3_of rfl rfl rfl hd_X3_of ⟨Nat.le_of_ble_eq_true rfl, Nat.le_of_ble_eq_true rfl⟩) ⟨pm_ro_blind, va_recv hK hPc (ci := 3) (q0 := 0) rfl rfl, pm_ro_pre hPc hK⟩ rfl rfl hl.1 rfl (lv_room (Nat.le_of_ble_eq_true rfl)) dL_areFrames_43 ⟨Nat.le_of_ble_eq_true rfl, Nat.le_of_ble_eq_true rfl⟩) (fun r555 h556 => ?_)
            obtain rfl : r555 = nI (pm_tk (S 4 k)) := h556.trans (pq_of1 (by omega))
            have := pm_tk8 (S 4 k)
            refine lv_istore (lv' := [(10, .int (nI (pm_tk (S 4 k)))), (9, .int (nI 3)), (0, .ref (L 0 0)), (1, .ref aw), (2, .int (nI (pm_pf S k))), (3, .int (nI (pm_rl S k))), (4, .int (nI (pm_lm S k))), (5, .int (nI (pm_bc S 1 k))), (6, .int (nI (pm_bc S 2 k))), (7, .int (nI (pm_bc S 0 k))), (8, .int (nI k))]) hx hb dL_areFrames_46 hl (by decide) rfl (fun ls hl => ?_)
            refine lv_aload_n hx hb dL_areFrames_48 rfl (lv_at hl 2 rfl) ?_
            refine lv_iload hx hb dL_areFrames_49 (lv_at hl 10 rfl) ?_
            refine lv_iconst (v := nI 2) hx hb dL_areFrames_51 (by decide) ?_
            have hPc : va_P D vwCl (pm_cl y L S Bs pi kn Gs sv U) H := pq_kept hP0 hS
            refine vp_callSi (W.runV (As := [.int (nI k), .int (nI 2)]) (rest := []) ⟨hx, hb, hml, hown, hts⟩ (k_X3_of l D y L S Bs pi kn Gs sv U Bs Gs (nI k) (nI 2) hI.1) (cwV 2 hts gL_areFrames_X3_of rfl rfl rfl hd_X3_of ⟨Nat.le_of_ble_eq_true rfl, Nat.le_of_ble_eq_true rfl⟩) ⟨pm_ro_blind, va_recv hK hPc (ci := 3) (q0 := 0) rfl rfl, pm_ro_pre hPc hK⟩ rfl rfl hl.1 rfl (lv_room (Nat.le_of_ble_eq_true rfl)) dL_areFrames_52 ⟨Nat.le_of_ble_eq_true rfl, Nat.le_of_ble_eq_true rfl⟩) (fun r557 h558 => ?_)
            obtain rfl : r557 = nI (pm_ck (S 4 k)) := h558.trans (pq_of2 (by omega))
            have := pm_ck8 (S 4 k)
            refine lv_istore (lv' := [(11, .int (nI (pm_ck (S 4 k)))), (10, .int (nI (pm_tk (S 4 k)))), (9, .int (nI 3)), (0, .ref (L 0 0)), (1, .ref aw), (2, .int (nI (pm_pf S k))), (3, .int (nI (pm_rl S k))), (4, .int (nI (pm_lm S k))), (5, .int (nI (pm_bc S 1 k))), (6, .int (nI (pm_bc S 2 k))), (7, .int (nI (pm_bc S 0 k))), (8, .int (nI k))]) hx hb dL_areFrames_55 hl (by decide) rfl (fun ls hl => ?_)
            refine lv_aload_n hx hb dL_areFrames_57 rfl (lv_at hl 3 rfl) ?_
            refine lv_iload hx hb dL_areFrames_58 (lv_at hl 11 rfl) ?_
            refine lv_iconst (v := nI 4) hx hb dL_areFrames_60 (by decide) ?_
            have hPc : va_P D vwCl (pm_cl y L S Bs pi kn Gs sv U) H := pq_kept hP0 hS
            refine vp_callSi (W.runV (As := [.int (nI k), .int (nI 4)]) (rest := []) ⟨hx, hb, hml, hown, hts⟩ (k_X3_of l D y L S Bs pi kn Gs sv U Bs Gs (nI k) (nI 4) hI.1) (cwV 2 hts gL_areFrames_X3_of rfl rfl rfl hd_X3_of ⟨Nat.le_of_ble_eq_true rfl, Nat.le_of_ble_eq_true rfl⟩) ⟨pm_ro_blind, va_recv hK hPc (ci := 3) (q0 := 0) rfl rfl, pm_ro_pre hPc hK⟩ rfl rfl hl.1 rfl (lv_room (Nat.le_of_ble_eq_true rfl)) dL_areFrames_61 ⟨Nat.le_of_ble_eq_true rfl, Nat.le_of_ble_eq_true rfl⟩) (fun r559 h560 => ?_)
            obtain rfl : r559 = nI (S 2 k) := h560.trans (pq_of4 (by omega))
            have := hI.1.size k (by omega)
            refine lv_istore (lv' := [(12, .int (nI (S 2 k))), (11, .int (nI (pm_ck (S 4 k)))), (10, .int (nI (pm_tk (S 4 k)))), (9, .int (nI 3)), (0, .ref (L 0 0)), (1, .ref aw), (2, .int (nI (pm_pf S k))), (3, .int (nI (pm_rl S k))), (4, .int (nI (pm_lm S k))), (5, .int (nI (pm_bc S 1 k))), (6, .int (nI (pm_bc S 2 k))), (7, .int (nI (pm_bc S 0 k))), (8, .int (nI k))]) hx hb dL_areFrames_64 hl (by decide) rfl (fun ls hl => ?_)
            refine lv_iload hx hb dL_areFrames_66 (lv_at hl 3 rfl) ?_
            refine lv_iconst (v := nI 1) hx hb dL_areFrames_68 (by decide) ?_
            refine lv_icmp_eq (tgt := 78) hx hb dL_areFrames_69 (by decide) (fun c561 => absurd c561 (by decide)) (fun _ => ?_)
            refine lv_iload hx hb dL_areFrames_72 (lv_at hl 3 rfl) ?_
            refine lv_iconst (v := nI 3) hx hb dL_areFrames_74 (by decide) ?_
            refine lv_icmp_ne (tgt := 82) hx hb dL_areFrames_75 (by decide) (fun c562 => (c562 (by decide)).elim) (fun _ => ?_)
            refine lv_iconst (v := nI 1) hx hb dL_areFrames_78 (by decide) ?_
            refine lv_goto (tgt := 83) hx hb dL_areFrames_79 (by decide) ?_
            refine lv_istore (lv' := [(13, .int (nI 1)), (12, .int (nI (S 2 k))), (11, .int (nI (pm_ck (S 4 k)))), (10, .int (nI (pm_tk (S 4 k)))), (9, .int (nI 3)), (0, .ref (L 0 0)), (1, .ref aw), (2, .int (nI (pm_pf S k))), (3, .int (nI (pm_rl S k))), (4, .int (nI (pm_lm S k))), (5, .int (nI (pm_bc S 1 k))), (6, .int (nI (pm_bc S 2 k))), (7, .int (nI (pm_bc S 0 k))), (8, .int (nI k))]) hx hb dL_areFrames_83 hl (by decide) rfl (fun ls hl => ?_)
            refine lv_iload hx hb dL_areFrames_85 (lv_at hl 4 rfl) ?_
            refine lv_if_lt (tgt := 180) hx hb dL_areFrames_87 (by decide) (fun c563 => absurd c563 (by decide)) (fun _ => ?_)
            refine lv_iload hx hb dL_areFrames_90 (lv_at hl 4 rfl) ?_
            refine lv_iconst (v := nI 4) hx hb dL_areFrames_92 (by decide) ?_
            refine lv_icmp_ge (tgt := 180) hx hb dL_areFrames_93 (by decide) (fun c564 => absurd c564 (by decide)) (fun _ => ?_)
            refine lv_iload hx hb dL_areFrames_96 (lv_at hl 3 rfl) ?_
            refine lv_iload hx hb dL_areFrames_98 (lv_at hl 2 rfl) ?_
            refine lv_iand hx hb dL_areFrames_100 ?_
            refine lv_topi (fun x565 e566 => ?_)
            obtain rfl : x565 = nI 0 := e566.trans (pq_and (hI.1.okm k hk))
            refine lv_if_ne (tgt := 180) hx hb dL_areFrames_101 (by decide) (fun c567 => (c567 (by decide)).elim) (fun _ => ?_)
            refine lv_iload hx hb dL_areFrames_104 (lv_at hl 4 rfl) ?_
            refine lv_if_eq (tgt := 117) hx hb dL_areFrames_106 (by decide) (fun c568 => absurd c568 (by decide)) (fun _ => ?_)
            refine lv_iload hx hb dL_areFrames_109 (lv_at hl 3 rfl) ?_
            refine lv_iload hx hb dL_areFrames_111 (lv_at hl 2 rfl) ?_
            refine kx_iadd hx hb dL_areFrames_113 ?_
            refine kx_if_ne (tgt := 180) hx hb (by omega) dL_areFrames_114 (by decide) (fun c569 => by exfalso; omega) (fun c569 => ?_)
            refine lv_iload hx hb dL_areFrames_117 (lv_at hl 0 rfl) ?_
            refine lv_if_eq (tgt := 161) hx hb dL_areFrames_119 (by decide) (fun c570 => absurd c570 (by decide)) (fun _ => ?_)
            refine lv_iload hx hb dL_areFrames_122 (lv_at hl 1 rfl) ?_
            refine kx_if_le (tgt := 180) hx hb (by omega) dL_areFrames_124 (by decide) (fun c571 => by exfalso; omega) (fun c571 => ?_)
            refine lv_iload hx hb dL_areFrames_127 (lv_at hl 1 rfl) ?_
            refine lv_iconst (v := nI 4) hx hb dL_areFrames_129 (by decide) ?_
            refine kx_icmp_ge (tgt := 180) hx hb (by omega) (by decide) dL_areFrames_130 (by decide) (fun c572 => by exfalso; omega) (fun c572 => ?_)
            refine lv_aload_n hx hb dL_areFrames_133 rfl (lv_at hl 5 rfl) ?_
            refine lv_iload hx hb dL_areFrames_134 (lv_at hl 13 rfl) ?_
            refine lv_iconst (v := nI 5) hx hb dL_areFrames_136 (by decide) ?_
            have hPc : va_P D vwCl (pm_cl y L S Bs pi kn Gs sv U) H := pq_kept hP0 hS
            refine vp_callSi (W.runV (As := [.int (nI k), .int (nI 5)]) (rest := []) ⟨hx, hb, hml, hown, hts⟩ (k_X3_of l D y L S Bs pi kn Gs sv U Bs Gs (nI k) (nI 5) hI.1) (cwV 2 hts gL_areFrames_X3_of rfl rfl rfl hd_X3_of ⟨Nat.le_of_ble_eq_true rfl, Nat.le_of_ble_eq_true rfl⟩) ⟨pm_ro_blind, va_recv hK hPc (ci := 3) (q0 := 0) rfl rfl, pm_ro_pre hPc hK⟩ rfl rfl hl.1 rfl (lv_room (Nat.le_of_ble_eq_true rfl)) dL_areFrames_137 ⟨Nat.le_of_ble_eq_true rfl, Nat.le_of_ble_eq_true rfl⟩) (fun r573 h574 => ?_)
            obtain rfl : r573 = pm_ci (S 3 k) := h574.trans (pq_of5 (by omega))
            have := hI.1.chi k (by omega)
            have := hI.1.rnd
            refine lv_topi (fun x575 e576 => ?_)
            obtain rfl : x575 = nI (S 3 k - 1) := e576.trans (pm_ci_p (by omega))
            refine kx_if_lt (tgt := 180) hx hb (by omega) dL_areFrames_140 (by decide) ?_
            refine lv_aload_n hx hb dL_areFrames_143 rfl (lv_at hl 5 rfl) ?_
            refine lv_iload hx hb dL_areFrames_144 (lv_at hl 13 rfl) ?_
            refine lv_iconst (v := nI 5) hx hb dL_areFrames_146 (by decide) ?_
            have hPc : va_P D vwCl (pm_cl y L S Bs pi kn Gs sv U) H := pq_kept hP0 hS
            refine vp_callSi (W.runV (As := [.int (nI k), .int (nI 5)]) (rest := []) ⟨hx, hb, hml, hown, hts⟩ (k_X3_of l D y L S Bs pi kn Gs sv U Bs Gs (nI k) (nI 5) hI.1) (cwV 2 hts gL_areFrames_X3_of rfl rfl rfl hd_X3_of ⟨Nat.le_of_ble_eq_true rfl, Nat.le_of_ble_eq_true rfl⟩) ⟨pm_ro_blind, va_recv hK hPc (ci := 3) (q0 := 0) rfl rfl, pm_ro_pre hPc hK⟩ rfl rfl hl.1 rfl (lv_room (Nat.le_of_ble_eq_true rfl)) dL_areFrames_147 ⟨Nat.le_of_ble_eq_true rfl, Nat.le_of_ble_eq_true rfl⟩) (fun r577 h578 => ?_)
            obtain rfl : r577 = pm_ci (S 3 k) := h578.trans (pq_of5 (by omega))
            have := hI.1.chi k (by omega)
            have := hI.1.rnd
            refine lv_topi (fun x579 e580 => ?_)
            obtain rfl : x579 = nI (S 3 k - 1) := e580.trans (pm_ci_p (by omega))
            refine lv_aload_n hx hb dL_areFrames_150 rfl (lv_at hl 5 rfl) ?_
            refine lv_iconst (v := nI 0) hx hb dL_areFrames_151 (by decide) ?_
            have hPc : va_P D vwCl (pm_cl y L S Bs pi kn Gs sv U) H := pq_kept hP0 hS
            refine vp_callSi (W.runV (As := [.int (nI 0)]) (rest := [.int (nI (S 3 k - 1))]) ⟨hx, hb, hml, hown, hts⟩ (k_X3_count l D y L S Bs pi kn Gs sv U Bs Gs (nI 0) hI.1) (cwV 1 hts gL_areFrames_X3_count rfl rfl rfl hd_X3_count ⟨Nat.le_of_ble_eq_true rfl, Nat.le_of_ble_eq_true rfl⟩) ⟨pm_ron_blind, va_recv hK hPc (ci := 3) (q0 := 0) rfl rfl, pm_ron_pre hPc hK hN⟩ rfl rfl hl.1 rfl (lv_room (Nat.le_of_ble_eq_true rfl)) dL_areFrames_152 ⟨Nat.le_of_ble_eq_true rfl, Nat.le_of_ble_eq_true rfl⟩) (fun r581 h582 => ?_)
            obtain rfl : r581 = nI (S 10 0) := h582.trans (pq_co0)
            have := hI.1.rnd
            refine kx_icmp_ge (tgt := 180) hx hb (by omega) (by omega) dL_areFrames_155 (by decide) (fun c583 => by exfalso; omega) (fun c583 => ?_)
            refine lv_goto (tgt := 166) hx hb dL_areFrames_158 (by decide) ?_
            refine lv_aload_n hx hb dL_areFrames_166 rfl (lv_at hl 5 rfl) ?_
            refine lv_iload hx hb dL_areFrames_167 (lv_at hl 13 rfl) ?_
            refine lv_iconst (v := nI 3) hx hb dL_areFrames_169 (by decide) ?_
            have hPc : va_P D vwCl (pm_cl y L S Bs pi kn Gs sv U) H := pq_kept hP0 hS
            refine vp_callSi (W.runV (As := [.int (nI k), .int (nI 3)]) (rest := []) ⟨hx, hb, hml, hown, hts⟩ (k_X3_of l D y L S Bs pi kn Gs sv U Bs Gs (nI k) (nI 3) hI.1) (cwV 2 hts gL_areFrames_X3_of rfl rfl rfl hd_X3_of ⟨Nat.le_of_ble_eq_true rfl, Nat.le_of_ble_eq_true rfl⟩) ⟨pm_ro_blind, va_recv hK hPc (ci := 3) (q0 := 0) rfl rfl, pm_ro_pre hPc hK⟩ rfl rfl hl.1 rfl (lv_room (Nat.le_of_ble_eq_true rfl)) dL_areFrames_170 ⟨Nat.le_of_ble_eq_true rfl, Nat.le_of_ble_eq_true rfl⟩) (fun r584 h585 => ?_)
            obtain rfl : r584 = nI (S 1 k) := h585.trans (pq_of3 (by omega))
            have := hI.1.dull k (by omega)
            have := hI.1.rnd
            refine kx_if_lt (tgt := 180) hx hb (by omega) dL_areFrames_173 (by decide) ?_
            refine lv_iconst (v := nI 1) hx hb dL_areFrames_176 (by decide) ?_
            refine lv_goto (tgt := 181) hx hb dL_areFrames_177 (by decide) ?_
            refine lv_istore (lv' := [(14, .int (nI 1)), (13, .int (nI 1)), (12, .int (nI (S 2 k))), (11, .int (nI (pm_ck (S 4 k)))), (10, .int (nI (pm_tk (S 4 k)))), (9, .int (nI 3)), (0, .ref (L 0 0)), (1, .ref aw), (2, .int (nI (pm_pf S k))), (3, .int (nI (pm_rl S k))), (4, .int (nI (pm_lm S k))), (5, .int (nI (pm_bc S 1 k))), (6, .int (nI (pm_bc S 2 k))), (7, .int (nI (pm_bc S 0 k))), (8, .int (nI k))]) hx hb dL_areFrames_181 hl (by decide) rfl (fun ls hl => ?_)
            refine lv_iload hx hb dL_areFrames_183 (lv_at hl 5 rfl) ?_
            refine lv_if_eq (tgt := 192) hx hb dL_areFrames_185 (by decide) (fun c586 => absurd c586 (by decide)) (fun _ => ?_)
            refine lv_iconst (v := nI 1) hx hb dL_areFrames_188 (by decide) ?_
            refine lv_goto (tgt := 220) hx hb dL_areFrames_189 (by decide) ?_
            refine lv_istore (lv' := [(15, .int (nI 1)), (14, .int (nI 1)), (13, .int (nI 1)), (12, .int (nI (S 2 k))), (11, .int (nI (pm_ck (S 4 k)))), (10, .int (nI (pm_tk (S 4 k)))), (9, .int (nI 3)), (0, .ref (L 0 0)), (1, .ref aw), (2, .int (nI (pm_pf S k))), (3, .int (nI (pm_rl S k))), (4, .int (nI (pm_lm S k))), (5, .int (nI (pm_bc S 1 k))), (6, .int (nI (pm_bc S 2 k))), (7, .int (nI (pm_bc S 0 k))), (8, .int (nI k))]) hx hb dL_areFrames_220 hl (by decide) rfl (fun ls hl => ?_)
            refine lv_iload hx hb dL_areFrames_222 (lv_at hl 1 rfl) ?_
            refine lv_if_eq (tgt := 252) hx hb dL_areFrames_224 (by decide) (fun c587 => absurd c587 (by decide)) (fun _ => ?_)
            refine lv_aload_n hx hb dL_areFrames_227 rfl (lv_at hl 7 rfl) ?_
            refine lv_iload hx hb dL_areFrames_228 (lv_at hl 15 rfl) ?_
            have hPc : va_P D vwCl (pm_cl y L S Bs pi kn Gs sv U) H := pq_kept hP0 hS
            refine vp_callSi (W.runV (As := [.int (nI k)]) (rest := []) ⟨hx, hb, hml, hown, hts⟩ (k_X3_why l D y L S Bs pi kn Gs sv U Bs Gs (nI k) hI.1) (cwV 1 hts gL_areFrames_X3_why rfl rfl rfl hd_X3_why ⟨Nat.le_of_ble_eq_true rfl, Nat.le_of_ble_eq_true rfl⟩) ⟨pm_ro_blind, va_recv hK hPc (ci := 3) (q0 := 0) rfl rfl, pm_ro_pre hPc hK⟩ rfl rfl hl.1 rfl (lv_room (Nat.le_of_ble_eq_true rfl)) dL_areFrames_230 ⟨Nat.le_of_ble_eq_true rfl, Nat.le_of_ble_eq_true rfl⟩) (fun r588 h589 => ?_)
            obtain rfl : r588 = nI 1 := h589.trans (hw)
            refine lv_iload hx hb dL_areFrames_233 (lv_at hl 0 rfl) ?_
            refine lv_icmp_ne (tgt := 252) hx hb dL_areFrames_235 (by decide) (fun c590 => (c590 (by decide)).elim) (fun _ => ?_)
            refine lv_iload hx hb dL_areFrames_238 (lv_at hl 6 rfl) ?_
            refine lv_if_eq (tgt := 254) hx hb dL_areFrames_240 (by decide) (fun c591 => absurd c591 (by decide)) (fun _ => ?_)
            refine lv_aload_n hx hb dL_areFrames_243 rfl (lv_at hl 7 rfl) ?_
            refine lv_iload hx hb dL_areFrames_244 (lv_at hl 15 rfl) ?_
            have hPc : va_P D vwCl (pm_cl y L S Bs pi kn Gs sv U) H := pq_kept hP0 hS
            refine vp_callSi (W.runV (As := [.int (nI k)]) (rest := []) ⟨hx, hb, hml, hown, hts⟩ (k_X3_decides l D y L S Bs pi kn Gs sv U Bs Gs (nI k) hI.1) (cwV 1 hts gL_areFrames_X3_decides rfl rfl rfl hd_X3_decides ⟨Nat.le_of_ble_eq_true rfl, Nat.le_of_ble_eq_true rfl⟩) ⟨pm_ro_blind, va_recv hK hPc (ci := 3) (q0 := 0) rfl rfl, pm_ro_pre hPc hK⟩ rfl rfl hl.1 rfl (lv_room (Nat.le_of_ble_eq_true rfl)) dL_areFrames_246 ⟨Nat.le_of_ble_eq_true rfl, Nat.le_of_ble_eq_true rfl⟩) (fun r592 h593 => ?_)
            obtain rfl : r592 = nI (pm_ds S k 3) := h593.trans (pq_dec (by omega))
            have := pm_ds_lt S k 3
            refine lv_topi (fun x594 e595 => ?_)
            obtain rfl : x594 = nI 0 := e595.trans (congrArg nI (pq_ds0 (by omega) 3))
            refine lv_if_eq (tgt := 254) hx hb dL_areFrames_249 (by decide) (fun _ => ?_) (fun c596 => (c596 (by decide)).elim)
            refine lv_aload_n hx hb dL_areFrames_254 rfl (lv_at hl 8 rfl) ?_
            refine lv_iload hx hb dL_areFrames_255 (lv_at hl 6 rfl) ?_
            refine lv_dup2_11 hx hb dL_areFrames_257 rfl rfl ?_
            refine kx_iald (v := nI (pm_hm S 3 k)) hx hb hK hP 0 0 rfl rfl (by decide) (by decide) rfl dL_areFrames_258 ?_
            refine lv_iconst (v := nI 1) hx hb dL_areFrames_259 (by decide) ?_
            refine kx_iadd hx hb dL_areFrames_260 ?_
            refine kx_iast (ws' := [(aw, .inl (y 0, 4, .inl (pm_vn (fun j => pm_hm S j (k + 1)))))]) hx hb hK hP hD hS 0 0 rfl rfl (by decide) (by decide) (pq_how h0) rfl dL_areFrames_261 (fun H locs hP hD hS => ?_)
            refine lv_iload_n hx hb dL_areFrames_262 rfl (lv_at hl 9 rfl) ?_
            refine lv_iload hx hb dL_areFrames_263 (lv_at hl 6 rfl) ?_
            refine lv_iconst (v := nI 1) hx hb dL_areFrames_265 (by decide) ?_
            refine lv_icmp_ne (tgt := 280) hx hb dL_areFrames_266 (by decide) (fun _ => ?_) (fun c597 => absurd c597 (by decide))
            refine lv_iconst (v := nI 0) hx hb dL_areFrames_280 (by decide) ?_
            refine kx_iadd hx hb dL_areFrames_281 ?_
            refine lv_istore_n (lv' := [(2, .int (nI ((pm_pf S k) + 0))), (15, .int (nI 1)), (14, .int (nI 1)), (13, .int (nI 1)), (12, .int (nI (S 2 k))), (11, .int (nI (pm_ck (S 4 k)))), (10, .int (nI (pm_tk (S 4 k)))), (9, .int (nI 3)), (0, .ref (L 0 0)), (1, .ref aw), (3, .int (nI (pm_rl S k))), (4, .int (nI (pm_lm S k))), (5, .int (nI (pm_bc S 1 k))), (6, .int (nI (pm_bc S 2 k))), (7, .int (nI (pm_bc S 0 k))), (8, .int (nI k))]) hx hb dL_areFrames_282 rfl hl (by decide) rfl (fun ls hl => ?_)
            refine lv_iload hx hb dL_areFrames_283 (lv_at hl 3 rfl) ?_
            refine lv_if_ne (tgt := 292) hx hb dL_areFrames_285 (by decide) (fun _ => ?_) (fun c598 => absurd c598 (by decide))
            refine lv_iload hx hb dL_areFrames_292 (lv_at hl 15 rfl) ?_
            refine lv_bipush (v := nI 6) hx hb dL_areFrames_294 (by decide) ?_
            refine kx_irem hx hb (by omega) (by omega) (by omega) dL_areFrames_296 ?_
            refine kx_if_ne (tgt := 304) hx hb (by omega) dL_areFrames_297 (by decide) (fun c599 => by exfalso; omega) (fun c599 => ?_)
            refine lv_iconst (v := nI 1) hx hb dL_areFrames_300 (by decide) ?_
            refine lv_goto (tgt := 307) hx hb dL_areFrames_301 (by decide) ?_
            refine lv_istore_n (lv' := [(3, .int (nI 1)), (2, .int (nI ((pm_pf S k) + 0))), (15, .int (nI 1)), (14, .int (nI 1)), (13, .int (nI 1)), (12, .int (nI (S 2 k))), (11, .int (nI (pm_ck (S 4 k)))), (10, .int (nI (pm_tk (S 4 k)))), (9, .int (nI 3)), (0, .ref (L 0 0)), (1, .ref aw), (4, .int (nI (pm_lm S k))), (5, .int (nI (pm_bc S 1 k))), (6, .int (nI (pm_bc S 2 k))), (7, .int (nI (pm_bc S 0 k))), (8, .int (nI k))]) hx hb dL_areFrames_307 rfl hl (by decide) rfl (fun ls hl => ?_)
            refine lv_iload_n hx hb dL_areFrames_308 rfl (lv_at hl 0 rfl) ?_
            refine lv_iload hx hb dL_areFrames_309 (lv_at hl 11 rfl) ?_
            refine kx_icmp_le (tgt := 318) hx hb (by decide) (by omega) dL_areFrames_311 (by decide) (fun c600 => ?_) (fun c600 => ?_)
            · skip
              refine lv_iload hx hb dL_areFrames_318 (lv_at hl 11 rfl) ?_
              refine lv_istore (lv' := [(4, .int (nI (pm_lm S k))), (3, .int (nI 1)), (2, .int (nI ((pm_pf S k) + 0))), (15, .int (nI 1)), (14, .int (nI 1)), (13, .int (nI 1)), (12, .int (nI (S 2 k))), (11, .int (nI (pm_ck (S 4 k)))), (10, .int (nI (pm_tk (S 4 k)))), (9, .int (nI 3)), (0, .ref (L 0 0)), (1, .ref aw), (5, .int (nI (pm_bc S 1 k))), (6, .int (nI (pm_bc S 2 k))), (7, .int (nI (pm_bc S 0 k))), (8, .int (nI k))]) hx hb dL_areFrames_320 hl (by decide) rfl (fun ls hl => ?_)
              refine lv_iload hx hb dL_areFrames_322 (lv_at hl 8 rfl) ?_
              refine lv_iload hx hb dL_areFrames_324 (lv_at hl 7 rfl) ?_
              refine kx_iadd hx hb dL_areFrames_326 ?_
              refine kx_if_ne (tgt := 334) hx hb (by omega) dL_areFrames_327 (by decide) (fun c601 => by exfalso; omega) (fun c601 => ?_)
              refine lv_iconst (v := nI 1) hx hb dL_areFrames_330 (by decide) ?_
              refine lv_goto (tgt := 335) hx hb dL_areFrames_331 (by decide) ?_
              refine lv_istore (lv' := [(16, .int (nI 1)), (4, .int (nI (pm_lm S k))), (3, .int (nI 1)), (2, .int (nI ((pm_pf S k) + 0))), (15, .int (nI 1)), (14, .int (nI 1)), (13, .int (nI 1)), (12, .int (nI (S 2 k))), (11, .int (nI (pm_ck (S 4 k)))), (10, .int (nI (pm_tk (S 4 k)))), (9, .int (nI 3)), (0, .ref (L 0 0)), (1, .ref aw), (5, .int (nI (pm_bc S 1 k))), (6, .int (nI (pm_bc S 2 k))), (7, .int (nI (pm_bc S 0 k))), (8, .int (nI k))]) hx hb dL_areFrames_335 hl (by decide) rfl (fun ls hl => ?_)
              refine lv_iload hx hb dL_areFrames_337 (lv_at hl 10 rfl) ?_
              refine lv_if_ne (tgt := 393) hx hb dL_areFrames_339 (by decide) (fun _ => ?_) (fun c602 => absurd c602 (by decide))
              refine lv_iconst (v := nI 0) hx hb dL_areFrames_393 (by decide) ?_
              refine lv_istore (lv' := [(17, .int (nI 0)), (16, .int (nI 1)), (4, .int (nI (pm_lm S k))), (3, .int (nI 1)), (2, .int (nI ((pm_pf S k) + 0))), (15, .int (nI 1)), (14, .int (nI 1)), (13, .int (nI 1)), (12, .int (nI (S 2 k))), (11, .int (nI (pm_ck (S 4 k)))), (10, .int (nI (pm_tk (S 4 k)))), (9, .int (nI 3)), (0, .ref (L 0 0)), (1, .ref aw), (5, .int (nI (pm_bc S 1 k))), (6, .int (nI (pm_bc S 2 k))), (7, .int (nI (pm_bc S 0 k))), (8, .int (nI k))]) hx hb dL_areFrames_394 hl (by decide) rfl (fun ls hl => ?_)
              refine lv_iload hx hb dL_areFrames_396 (lv_at hl 14 rfl) ?_
              refine lv_iload hx hb dL_areFrames_398 (lv_at hl 5 rfl) ?_
              refine lv_if_ne (tgt := 407) hx hb dL_areFrames_400 (by decide) (fun _ => ?_) (fun c603 => absurd c603 (by decide))
              refine lv_iconst (v := nI 0) hx hb dL_areFrames_407 (by decide) ?_
              refine kx_iadd hx hb dL_areFrames_408 ?_
              refine lv_istore (lv' := [(5, .int (nI ((pm_bc S 1 k) + 0))), (17, .int (nI 0)), (16, .int (nI 1)), (4, .int (nI (pm_lm S k))), (3, .int (nI 1)), (2, .int (nI ((pm_pf S k) + 0))), (15, .int (nI 1)), (14, .int (nI 1)), (13, .int (nI 1)), (12, .int (nI (S 2 k))), (11, .int (nI (pm_ck (S 4 k)))), (10, .int (nI (pm_tk (S 4 k)))), (9, .int (nI 3)), (0, .ref (L 0 0)), (1, .ref aw), (6, .int (nI (pm_bc S 2 k))), (7, .int (nI (pm_bc S 0 k))), (8, .int (nI k))]) hx hb dL_areFrames_409 hl (by decide) rfl (fun ls hl => ?_)
              refine lv_iload hx hb dL_areFrames_411 (lv_at hl 15 rfl) ?_
              refine lv_iload hx hb dL_areFrames_413 (lv_at hl 1 rfl) ?_
              refine lv_if_eq (tgt := 422) hx hb dL_areFrames_415 (by decide) (fun _ => ?_) (fun c604 => (c604 (by decide)).elim)
              refine lv_iconst (v := nI 0) hx hb dL_areFrames_422 (by decide) ?_
              refine kx_iadd hx hb dL_areFrames_423 ?_
              refine lv_istore (lv' := [(6, .int (nI ((pm_bc S 2 k) + 0))), (5, .int (nI ((pm_bc S 1 k) + 0))), (17, .int (nI 0)), (16, .int (nI 1)), (4, .int (nI (pm_lm S k))), (3, .int (nI 1)), (2, .int (nI ((pm_pf S k) + 0))), (15, .int (nI 1)), (14, .int (nI 1)), (13, .int (nI 1)), (12, .int (nI (S 2 k))), (11, .int (nI (pm_ck (S 4 k)))), (10, .int (nI (pm_tk (S 4 k)))), (9, .int (nI 3)), (0, .ref (L 0 0)), (1, .ref aw), (7, .int (nI (pm_bc S 0 k))), (8, .int (nI k))]) hx hb dL_areFrames_424 hl (by decide) rfl (fun ls hl => ?_)
              refine lv_iload hx hb dL_areFrames_426 (lv_at hl 16 rfl) ?_
              refine lv_iload hx hb dL_areFrames_428 (lv_at hl 13 rfl) ?_
              refine lv_if_ne (tgt := 447) hx hb dL_areFrames_430 (by decide) (fun _ => ?_) (fun c605 => absurd c605 (by decide))
              refine lv_iconst (v := nI 0) hx hb dL_areFrames_447 (by decide) ?_
              refine kx_iadd hx hb dL_areFrames_448 ?_
              refine lv_istore (lv' := [(7, .int (nI ((pm_bc S 0 k) + 0))), (6, .int (nI ((pm_bc S 2 k) + 0))), (5, .int (nI ((pm_bc S 1 k) + 0))), (17, .int (nI 0)), (16, .int (nI 1)), (4, .int (nI (pm_lm S k))), (3, .int (nI 1)), (2, .int (nI ((pm_pf S k) + 0))), (15, .int (nI 1)), (14, .int (nI 1)), (13, .int (nI 1)), (12, .int (nI (S 2 k))), (11, .int (nI (pm_ck (S 4 k)))), (10, .int (nI (pm_tk (S 4 k)))), (9, .int (nI 3)), (0, .ref (L 0 0)), (1, .ref aw), (8, .int (nI k))]) hx hb dL_areFrames_449 hl (by decide) rfl (fun ls hl => ?_)
              refine kx_iinc (a := k) (lv' := [(8, .int (nI (k + 1))), (7, .int (nI ((pm_bc S 0 k) + 0))), (6, .int (nI ((pm_bc S 2 k) + 0))), (5, .int (nI ((pm_bc S 1 k) + 0))), (17, .int (nI 0)), (16, .int (nI 1)), (4, .int (nI (pm_lm S k))), (3, .int (nI 1)), (2, .int (nI ((pm_pf S k) + 0))), (15, .int (nI 1)), (14, .int (nI 1)), (13, .int (nI 1)), (12, .int (nI (S 2 k))), (11, .int (nI (pm_ck (S 4 k)))), (10, .int (nI (pm_tk (S 4 k)))), (9, .int (nI 3)), (0, .ref (L 0 0)), (1, .ref aw)]) hx hb dL_areFrames_451 hl (k := 17) rfl (by decide) rfl (fun ls hl => ?_)
              refine lv_goto (tgt := 23) hx hb dL_areFrames_454 (by decide) ?_
              have q606 : (nI (pm_pf S (k + 1)) : Int32) = nI ((pm_pf S k) + 0) := (congrArg nI (pm_pf_n (by omega)))
              have q607 : (nI (pm_rl S (k + 1)) : Int32) = nI 1 := (congrArg nI hrl)
              have q608 : (nI (pm_lm S (k + 1)) : Int32) = nI (pm_lm S k) := (congrArg nI (by rw [pq_lm hrl]; split <;> omega))
              have q609 : (nI (pm_bc S 1 (k + 1)) : Int32) = nI ((pm_bc S 1 k) + 0) := (congrArg nI (pq_bcn (by omega) 1))
              have q610 : (nI (pm_bc S 2 (k + 1)) : Int32) = nI ((pm_bc S 2 k) + 0) := (congrArg nI (pq_bcn (by omega) 2))
              have q611 : (nI (pm_bc S 0 (k + 1)) : Int32) = nI ((pm_bc S 0 k) + 0) := (congrArg nI (pq_bcn (by omega) 0))
              exact ih3 (k + 1) ls H locs hP hD hS (by omega) (by omega) (by rw [q606, q607, q608, q609, q610, q611]; exact lv_sub hl [16, 17, 8, 7, 6, 3, 2, 1, 0] rfl) 
            · skip
              refine lv_iload_n hx hb dL_areFrames_314 rfl (lv_at hl 0 rfl) ?_
              refine lv_goto (tgt := 320) hx hb dL_areFrames_315 (by decide) ?_
              refine lv_istore (lv' := [(4, .int (nI 1)), (3, .int (nI 1)), (2, .int (nI ((pm_pf S k) + 0))), (15, .int (nI 1)), (14, .int (nI 1)), (13, .int (nI 1)), (12, .int (nI (S 2 k))), (11, .int (nI (pm_ck (S 4 k)))), (10, .int (nI (pm_tk (S 4 k)))), (9, .int (nI 3)), (0, .ref (L 0 0)), (1, .ref aw), (5, .int (nI (pm_bc S 1 k))), (6, .int (nI (pm_bc S 2 k))), (7, .int (nI (pm_bc S 0 k))), (8, .int (nI k))]) hx hb dL_areFrames_320 hl (by decide) rfl (fun ls hl => ?_)
              refine lv_iload hx hb dL_areFrames_322 (lv_at hl 8 rfl) ?_
              refine lv_iload hx hb dL_areFrames_324 (lv_at hl 7 rfl) ?_
              refine kx_iadd hx hb dL_areFrames_326 ?_
              refine kx_if_ne (tgt := 334) hx hb (by omega) dL_areFrames_327 (by decide) (fun c612 => by exfalso; omega) (fun c612 => ?_)
              refine lv_iconst (v := nI 1) hx hb dL_areFrames_330 (by decide) ?_
              refine lv_goto (tgt := 335) hx hb dL_areFrames_331 (by decide) ?_
              refine lv_istore (lv' := [(16, .int (nI 1)), (4, .int (nI 1)), (3, .int (nI 1)), (2, .int (nI ((pm_pf S k) + 0))), (15, .int (nI 1)), (14, .int (nI 1)), (13, .int (nI 1)), (12, .int (nI (S 2 k))), (11, .int (nI (pm_ck (S 4 k)))), (10, .int (nI (pm_tk (S 4 k)))), (9, .int (nI 3)), (0, .ref (L 0 0)), (1, .ref aw), (5, .int (nI (pm_bc S 1 k))), (6, .int (nI (pm_bc S 2 k))), (7, .int (nI (pm_bc S 0 k))), (8, .int (nI k))]) hx hb dL_areFrames_335 hl (by decide) rfl (fun ls hl => ?_)
              refine lv_iload hx hb dL_areFrames_337 (lv_at hl 10 rfl) ?_
              refine lv_if_ne (tgt := 393) hx hb dL_areFrames_339 (by decide) (fun _ => ?_) (fun c613 => absurd c613 (by decide))
              refine lv_iconst (v := nI 0) hx hb dL_areFrames_393 (by decide) ?_
              refine lv_istore (lv' := [(17, .int (nI 0)), (16, .int (nI 1)), (4, .int (nI 1)), (3, .int (nI 1)), (2, .int (nI ((pm_pf S k) + 0))), (15, .int (nI 1)), (14, .int (nI 1)), (13, .int (nI 1)), (12, .int (nI (S 2 k))), (11, .int (nI (pm_ck (S 4 k)))), (10, .int (nI (pm_tk (S 4 k)))), (9, .int (nI 3)), (0, .ref (L 0 0)), (1, .ref aw), (5, .int (nI (pm_bc S 1 k))), (6, .int (nI (pm_bc S 2 k))), (7, .int (nI (pm_bc S 0 k))), (8, .int (nI k))]) hx hb dL_areFrames_394 hl (by decide) rfl (fun ls hl => ?_)
              refine lv_iload hx hb dL_areFrames_396 (lv_at hl 14 rfl) ?_
              refine lv_iload hx hb dL_areFrames_398 (lv_at hl 5 rfl) ?_
              refine lv_if_ne (tgt := 407) hx hb dL_areFrames_400 (by decide) (fun _ => ?_) (fun c614 => absurd c614 (by decide))
              refine lv_iconst (v := nI 0) hx hb dL_areFrames_407 (by decide) ?_
              refine kx_iadd hx hb dL_areFrames_408 ?_
              refine lv_istore (lv' := [(5, .int (nI ((pm_bc S 1 k) + 0))), (17, .int (nI 0)), (16, .int (nI 1)), (4, .int (nI 1)), (3, .int (nI 1)), (2, .int (nI ((pm_pf S k) + 0))), (15, .int (nI 1)), (14, .int (nI 1)), (13, .int (nI 1)), (12, .int (nI (S 2 k))), (11, .int (nI (pm_ck (S 4 k)))), (10, .int (nI (pm_tk (S 4 k)))), (9, .int (nI 3)), (0, .ref (L 0 0)), (1, .ref aw), (6, .int (nI (pm_bc S 2 k))), (7, .int (nI (pm_bc S 0 k))), (8, .int (nI k))]) hx hb dL_areFrames_409 hl (by decide) rfl (fun ls hl => ?_)
              refine lv_iload hx hb dL_areFrames_411 (lv_at hl 15 rfl) ?_
              refine lv_iload hx hb dL_areFrames_413 (lv_at hl 1 rfl) ?_
              refine lv_if_eq (tgt := 422) hx hb dL_areFrames_415 (by decide) (fun _ => ?_) (fun c615 => (c615 (by decide)).elim)
              refine lv_iconst (v := nI 0) hx hb dL_areFrames_422 (by decide) ?_
              refine kx_iadd hx hb dL_areFrames_423 ?_
              refine lv_istore (lv' := [(6, .int (nI ((pm_bc S 2 k) + 0))), (5, .int (nI ((pm_bc S 1 k) + 0))), (17, .int (nI 0)), (16, .int (nI 1)), (4, .int (nI 1)), (3, .int (nI 1)), (2, .int (nI ((pm_pf S k) + 0))), (15, .int (nI 1)), (14, .int (nI 1)), (13, .int (nI 1)), (12, .int (nI (S 2 k))), (11, .int (nI (pm_ck (S 4 k)))), (10, .int (nI (pm_tk (S 4 k)))), (9, .int (nI 3)), (0, .ref (L 0 0)), (1, .ref aw), (7, .int (nI (pm_bc S 0 k))), (8, .int (nI k))]) hx hb dL_areFrames_424 hl (by decide) rfl (fun ls hl => ?_)
              refine lv_iload hx hb dL_areFrames_426 (lv_at hl 16 rfl) ?_
              refine lv_iload hx hb dL_areFrames_428 (lv_at hl 13 rfl) ?_
              refine lv_if_ne (tgt := 447) hx hb dL_areFrames_430 (by decide) (fun _ => ?_) (fun c616 => absurd c616 (by decide))
              refine lv_iconst (v := nI 0) hx hb dL_areFrames_447 (by decide) ?_
              refine kx_iadd hx hb dL_areFrames_448 ?_
              refine lv_istore (lv' := [(7, .int (nI ((pm_bc S 0 k) + 0))), (6, .int (nI ((pm_bc S 2 k) + 0))), (5, .int (nI ((pm_bc S 1 k) + 0))), (17, .int (nI 0)), (16, .int (nI 1)), (4, .int (nI 1)), (3, .int (nI 1)), (2, .int (nI ((pm_pf S k) + 0))), (15, .int (nI 1)), (14, .int (nI 1)), (13, .int (nI 1)), (12, .int (nI (S 2 k))), (11, .int (nI (pm_ck (S 4 k)))), (10, .int (nI (pm_tk (S 4 k)))), (9, .int (nI 3)), (0, .ref (L 0 0)), (1, .ref aw), (8, .int (nI k))]) hx hb dL_areFrames_449 hl (by decide) rfl (fun ls hl => ?_)
              refine kx_iinc (a := k) (lv' := [(8, .int (nI (k + 1))), (7, .int (nI ((pm_bc S 0 k) + 0))), (6, .int (nI ((pm_bc S 2 k) + 0))), (5, .int (nI ((pm_bc S 1 k) + 0))), (17, .int (nI 0)), (16, .int (nI 1)), (4, .int (nI 1)), (3, .int (nI 1)), (2, .int (nI ((pm_pf S k) + 0))), (15, .int (nI 1)), (14, .int (nI 1)), (13, .int (nI 1)), (12, .int (nI (S 2 k))), (11, .int (nI (pm_ck (S 4 k)))), (10, .int (nI (pm_tk (S 4 k)))), (9, .int (nI 3)), (0, .ref (L 0 0)), (1, .ref aw)]) hx hb dL_areFrames_451 hl (k := 17) rfl (by decide) rfl (fun ls hl => ?_)
              refine lv_goto (tgt := 23) hx hb dL_areFrames_454 (by decide) ?_
              have q617 : (nI (pm_pf S (k + 1)) : Int32) = nI ((pm_pf S k) + 0) := (congrArg nI (pm_pf_n (by omega)))
              have q618 : (nI (pm_rl S (k + 1)) : Int32) = nI 1 := (congrArg nI hrl)
              have q619 : (nI (pm_lm S (k + 1)) : Int32) = nI 1 := (congrArg nI (by rw [pq_lm hrl]; split <;> omega))
              have q620 : (nI (pm_bc S 1 (k + 1)) : Int32) = nI ((pm_bc S 1 k) + 0) := (congrArg nI (pq_bcn (by omega) 1))
              have q621 : (nI (pm_bc S 2 (k + 1)) : Int32) = nI ((pm_bc S 2 k) + 0) := (congrArg nI (pq_bcn (by omega) 2))
              have q622 : (nI (pm_bc S 0 (k + 1)) : Int32) = nI ((pm_bc S 0 k) + 0) := (congrArg nI (pq_bcn (by omega) 0))
              exact ih3 (k + 1) ls H locs hP hD hS (by omega) (by omega) (by rw [q617, q618, q619, q620, q621, q622]; exact lv_sub hl [16, 17, 8, 7, 6, 3, 2, 1, 0] rfl) 
          · have hrl := pq_rl2 (S := S) (by omega) h6
            refine lv_aload_n hx hb dL_areFrames_30 rfl (lv_at hl 0 rfl) ?_
            refine lv_iload hx hb dL_areFrames_31 (lv_at hl 8 rfl) ?_
            refine lv_iconst (v := nI 0) hx hb dL_areFrames_33 (by decide) ?_
            have hPc : va_P D vwCl (pm_cl y L S Bs pi kn Gs sv U) H := pq_kept hP0 hS
            refine vp_callSi (W.runV (As := [.int (nI k), .int (nI 0)]) (rest := []) ⟨hx, hb, hml, hown, hts⟩ (k_X3_of l D y L S Bs pi kn Gs sv U Bs Gs (nI k) (nI 0) hI.1) (cwV 2 hts gL_areFrames_X3_of rfl rfl rfl hd_X3_of ⟨Nat.le_of_ble_eq_true rfl, Nat.le_of_ble_eq_true rfl⟩) ⟨pm_ro_blind, va_recv hK hPc (ci := 3) (q0 := 0) rfl rfl, pm_ro_pre hPc hK⟩ rfl rfl hl.1 rfl (lv_room (Nat.le_of_ble_eq_true rfl)) dL_areFrames_34 ⟨Nat.le_of_ble_eq_true rfl, Nat.le_of_ble_eq_true rfl⟩) (fun r623 h624 => ?_)
            obtain rfl : r623 = nI 3 := h624.trans ((pq_of0 (by omega)).trans (congrArg nI h0))
            refine lv_istore (lv' := [(9, .int (nI 3)), (0, .ref (L 0 0)), (1, .ref aw), (2, .int (nI (pm_pf S k))), (3, .int (nI (pm_rl S k))), (4, .int (nI (pm_lm S k))), (5, .int (nI (pm_bc S 1 k))), (6, .int (nI (pm_bc S 2 k))), (7, .int (nI (pm_bc S 0 k))), (8, .int (nI k))]) hx hb dL_areFrames_37 hl (by decide) rfl (fun ls hl => ?_)
            refine lv_aload_n hx hb dL_areFrames_39 rfl (lv_at hl 1 rfl) ?_
            refine lv_iload hx hb dL_areFrames_40 (lv_at hl 9 rfl) ?_
            refine lv_iconst (v := nI 1) hx hb dL_areFrames_42 (by decide) ?_
            have hPc : va_P D vwCl (pm_cl y L S Bs pi kn Gs sv U) H := pq_kept hP0 hS
            refine vp_callSi (W.runV (As := [.int (nI k), .int (nI 1)]) (rest := []) ⟨hx, hb, hml, hown, hts⟩ (k_X3_of l D y L S Bs pi kn Gs sv U Bs Gs (nI k) (nI 1) hI.1) (cwV 2 hts gL_areFrames_X3_of rfl rfl rfl hd_X3_of ⟨Nat.le_of_ble_eq_true rfl, Nat.le_of_ble_eq_true rfl⟩) ⟨pm_ro_blind, va_recv hK hPc (ci := 3) (q0 := 0) rfl rfl, pm_ro_pre hPc hK⟩ rfl rfl hl.1 rfl (lv_room (Nat.le_of_ble_eq_true rfl)) dL_areFrames_43 ⟨Nat.le_of_ble_eq_true rfl, Nat.le_of_ble_eq_true rfl⟩) (fun r625 h626 => ?_)
            obtain rfl : r625 = nI (pm_tk (S 4 k)) := h626.trans (pq_of1 (by omega))
            have := pm_tk8 (S 4 k)
            refine lv_istore (lv' := [(10, .int (nI (pm_tk (S 4 k)))), (9, .int (nI 3)), (0, .ref (L 0 0)), (1, .ref aw), (2, .int (nI (pm_pf S k))), (3, .int (nI (pm_rl S k))), (4, .int (nI (pm_lm S k))), (5, .int (nI (pm_bc S 1 k))), (6, .int (nI (pm_bc S 2 k))), (7, .int (nI (pm_bc S 0 k))), (8, .int (nI k))]) hx hb dL_areFrames_46 hl (by decide) rfl (fun ls hl => ?_)
            refine lv_aload_n hx hb dL_areFrames_48 rfl (lv_at hl 2 rfl) ?_
            refine lv_iload hx hb dL_areFrames_49 (lv_at hl 10 rfl) ?_
            refine lv_iconst (v := nI 2) hx hb dL_areFrames_51 (by decide) ?_
            have hPc : va_P D vwCl (pm_cl y L S Bs pi kn Gs sv U) H := pq_kept hP0 hS
            refine vp_callSi (W.runV (As := [.int (nI k), .int (nI 2)]) (rest := []) ⟨hx, hb, hml, hown, hts⟩ (k_X3_of l D y L S Bs pi kn Gs sv U Bs Gs (nI k) (nI 2) hI.1) (cwV 2 hts gL_areFrames_X3_of rfl rfl rfl hd_X3_of ⟨Nat.le_of_ble_eq_true rfl, Nat.le_of_ble_eq_true rfl⟩) ⟨pm_ro_blind, va_recv hK hPc (ci := 3) (q0 := 0) rfl rfl, pm_ro_pre hPc hK⟩ rfl rfl hl.1 rfl (lv_room (Nat.le_of_ble_eq_true rfl)) dL_areFrames_52 ⟨Nat.le_of_ble_eq_true rfl, Nat.le_of_ble_eq_true rfl⟩) (fun r627 h628 => ?_)
            obtain rfl : r627 = nI (pm_ck (S 4 k)) := h628.trans (pq_of2 (by omega))
            have := pm_ck8 (S 4 k)
            refine lv_istore (lv' := [(11, .int (nI (pm_ck (S 4 k)))), (10, .int (nI (pm_tk (S 4 k)))), (9, .int (nI 3)), (0, .ref (L 0 0)), (1, .ref aw), (2, .int (nI (pm_pf S k))), (3, .int (nI (pm_rl S k))), (4, .int (nI (pm_lm S k))), (5, .int (nI (pm_bc S 1 k))), (6, .int (nI (pm_bc S 2 k))), (7, .int (nI (pm_bc S 0 k))), (8, .int (nI k))]) hx hb dL_areFrames_55 hl (by decide) rfl (fun ls hl => ?_)
            refine lv_aload_n hx hb dL_areFrames_57 rfl (lv_at hl 3 rfl) ?_
            refine lv_iload hx hb dL_areFrames_58 (lv_at hl 11 rfl) ?_
            refine lv_iconst (v := nI 4) hx hb dL_areFrames_60 (by decide) ?_
            have hPc : va_P D vwCl (pm_cl y L S Bs pi kn Gs sv U) H := pq_kept hP0 hS
            refine vp_callSi (W.runV (As := [.int (nI k), .int (nI 4)]) (rest := []) ⟨hx, hb, hml, hown, hts⟩ (k_X3_of l D y L S Bs pi kn Gs sv U Bs Gs (nI k) (nI 4) hI.1) (cwV 2 hts gL_areFrames_X3_of rfl rfl rfl hd_X3_of ⟨Nat.le_of_ble_eq_true rfl, Nat.le_of_ble_eq_true rfl⟩) ⟨pm_ro_blind, va_recv hK hPc (ci := 3) (q0 := 0) rfl rfl, pm_ro_pre hPc hK⟩ rfl rfl hl.1 rfl (lv_room (Nat.le_of_ble_eq_true rfl)) dL_areFrames_61 ⟨Nat.le_of_ble_eq_true rfl, Nat.le_of_ble_eq_true rfl⟩) (fun r629 h630 => ?_)
            obtain rfl : r629 = nI (S 2 k) := h630.trans (pq_of4 (by omega))
            have := hI.1.size k (by omega)
            refine lv_istore (lv' := [(12, .int (nI (S 2 k))), (11, .int (nI (pm_ck (S 4 k)))), (10, .int (nI (pm_tk (S 4 k)))), (9, .int (nI 3)), (0, .ref (L 0 0)), (1, .ref aw), (2, .int (nI (pm_pf S k))), (3, .int (nI (pm_rl S k))), (4, .int (nI (pm_lm S k))), (5, .int (nI (pm_bc S 1 k))), (6, .int (nI (pm_bc S 2 k))), (7, .int (nI (pm_bc S 0 k))), (8, .int (nI k))]) hx hb dL_areFrames_64 hl (by decide) rfl (fun ls hl => ?_)
            refine lv_iload hx hb dL_areFrames_66 (lv_at hl 3 rfl) ?_
            refine lv_iconst (v := nI 1) hx hb dL_areFrames_68 (by decide) ?_
            refine lv_icmp_eq (tgt := 78) hx hb dL_areFrames_69 (by decide) (fun c631 => absurd c631 (by decide)) (fun _ => ?_)
            refine lv_iload hx hb dL_areFrames_72 (lv_at hl 3 rfl) ?_
            refine lv_iconst (v := nI 3) hx hb dL_areFrames_74 (by decide) ?_
            refine lv_icmp_ne (tgt := 82) hx hb dL_areFrames_75 (by decide) (fun c632 => (c632 (by decide)).elim) (fun _ => ?_)
            refine lv_iconst (v := nI 1) hx hb dL_areFrames_78 (by decide) ?_
            refine lv_goto (tgt := 83) hx hb dL_areFrames_79 (by decide) ?_
            refine lv_istore (lv' := [(13, .int (nI 1)), (12, .int (nI (S 2 k))), (11, .int (nI (pm_ck (S 4 k)))), (10, .int (nI (pm_tk (S 4 k)))), (9, .int (nI 3)), (0, .ref (L 0 0)), (1, .ref aw), (2, .int (nI (pm_pf S k))), (3, .int (nI (pm_rl S k))), (4, .int (nI (pm_lm S k))), (5, .int (nI (pm_bc S 1 k))), (6, .int (nI (pm_bc S 2 k))), (7, .int (nI (pm_bc S 0 k))), (8, .int (nI k))]) hx hb dL_areFrames_83 hl (by decide) rfl (fun ls hl => ?_)
            refine lv_iload hx hb dL_areFrames_85 (lv_at hl 4 rfl) ?_
            refine lv_if_lt (tgt := 180) hx hb dL_areFrames_87 (by decide) (fun c633 => absurd c633 (by decide)) (fun _ => ?_)
            refine lv_iload hx hb dL_areFrames_90 (lv_at hl 4 rfl) ?_
            refine lv_iconst (v := nI 4) hx hb dL_areFrames_92 (by decide) ?_
            refine lv_icmp_ge (tgt := 180) hx hb dL_areFrames_93 (by decide) (fun c634 => absurd c634 (by decide)) (fun _ => ?_)
            refine lv_iload hx hb dL_areFrames_96 (lv_at hl 3 rfl) ?_
            refine lv_iload hx hb dL_areFrames_98 (lv_at hl 2 rfl) ?_
            refine lv_iand hx hb dL_areFrames_100 ?_
            refine lv_topi (fun x635 e636 => ?_)
            obtain rfl : x635 = nI 0 := e636.trans (pq_and (hI.1.okm k hk))
            refine lv_if_ne (tgt := 180) hx hb dL_areFrames_101 (by decide) (fun c637 => (c637 (by decide)).elim) (fun _ => ?_)
            refine lv_iload hx hb dL_areFrames_104 (lv_at hl 4 rfl) ?_
            refine lv_if_eq (tgt := 117) hx hb dL_areFrames_106 (by decide) (fun c638 => absurd c638 (by decide)) (fun _ => ?_)
            refine lv_iload hx hb dL_areFrames_109 (lv_at hl 3 rfl) ?_
            refine lv_iload hx hb dL_areFrames_111 (lv_at hl 2 rfl) ?_
            refine kx_iadd hx hb dL_areFrames_113 ?_
            refine kx_if_ne (tgt := 180) hx hb (by omega) dL_areFrames_114 (by decide) (fun c639 => by exfalso; omega) (fun c639 => ?_)
            refine lv_iload hx hb dL_areFrames_117 (lv_at hl 0 rfl) ?_
            refine lv_if_eq (tgt := 161) hx hb dL_areFrames_119 (by decide) (fun c640 => absurd c640 (by decide)) (fun _ => ?_)
            refine lv_iload hx hb dL_areFrames_122 (lv_at hl 1 rfl) ?_
            refine kx_if_le (tgt := 180) hx hb (by omega) dL_areFrames_124 (by decide) (fun c641 => by exfalso; omega) (fun c641 => ?_)
            refine lv_iload hx hb dL_areFrames_127 (lv_at hl 1 rfl) ?_
            refine lv_iconst (v := nI 4) hx hb dL_areFrames_129 (by decide) ?_
            refine kx_icmp_ge (tgt := 180) hx hb (by omega) (by decide) dL_areFrames_130 (by decide) (fun c642 => by exfalso; omega) (fun c642 => ?_)
            refine lv_aload_n hx hb dL_areFrames_133 rfl (lv_at hl 5 rfl) ?_
            refine lv_iload hx hb dL_areFrames_134 (lv_at hl 13 rfl) ?_
            refine lv_iconst (v := nI 5) hx hb dL_areFrames_136 (by decide) ?_
            have hPc : va_P D vwCl (pm_cl y L S Bs pi kn Gs sv U) H := pq_kept hP0 hS
            refine vp_callSi (W.runV (As := [.int (nI k), .int (nI 5)]) (rest := []) ⟨hx, hb, hml, hown, hts⟩ (k_X3_of l D y L S Bs pi kn Gs sv U Bs Gs (nI k) (nI 5) hI.1) (cwV 2 hts gL_areFrames_X3_of rfl rfl rfl hd_X3_of ⟨Nat.le_of_ble_eq_true rfl, Nat.le_of_ble_eq_true rfl⟩) ⟨pm_ro_blind, va_recv hK hPc (ci := 3) (q0 := 0) rfl rfl, pm_ro_pre hPc hK⟩ rfl rfl hl.1 rfl (lv_room (Nat.le_of_ble_eq_true rfl)) dL_areFrames_137 ⟨Nat.le_of_ble_eq_true rfl, Nat.le_of_ble_eq_true rfl⟩) (fun r643 h644 => ?_)
            obtain rfl : r643 = pm_ci (S 3 k) := h644.trans (pq_of5 (by omega))
            have := hI.1.chi k (by omega)
            have := hI.1.rnd
            refine lv_topi (fun x645 e646 => ?_)
            obtain rfl : x645 = nI (S 3 k - 1) := e646.trans (pm_ci_p (by omega))
            refine kx_if_lt (tgt := 180) hx hb (by omega) dL_areFrames_140 (by decide) ?_
            refine lv_aload_n hx hb dL_areFrames_143 rfl (lv_at hl 5 rfl) ?_
            refine lv_iload hx hb dL_areFrames_144 (lv_at hl 13 rfl) ?_
            refine lv_iconst (v := nI 5) hx hb dL_areFrames_146 (by decide) ?_
            have hPc : va_P D vwCl (pm_cl y L S Bs pi kn Gs sv U) H := pq_kept hP0 hS
            refine vp_callSi (W.runV (As := [.int (nI k), .int (nI 5)]) (rest := []) ⟨hx, hb, hml, hown, hts⟩ (k_X3_of l D y L S Bs pi kn Gs sv U Bs Gs (nI k) (nI 5) hI.1) (cwV 2 hts gL_areFrames_X3_of rfl rfl rfl hd_X3_of ⟨Nat.le_of_ble_eq_true rfl, Nat.le_of_ble_eq_true rfl⟩) ⟨pm_ro_blind, va_recv hK hPc (ci := 3) (q0 := 0) rfl rfl, pm_ro_pre hPc hK⟩ rfl rfl hl.1 rfl (lv_room (Nat.le_of_ble_eq_true rfl)) dL_areFrames_147 ⟨Nat.le_of_ble_eq_true rfl, Nat.le_of_ble_eq_true rfl⟩) (fun r647 h648 => ?_)
            obtain rfl : r647 = pm_ci (S 3 k) := h648.trans (pq_of5 (by omega))
            have := hI.1.chi k (by omega)
            have := hI.1.rnd
            refine lv_topi (fun x649 e650 => ?_)
            obtain rfl : x649 = nI (S 3 k - 1) := e650.trans (pm_ci_p (by omega))
            refine lv_aload_n hx hb dL_areFrames_150 rfl (lv_at hl 5 rfl) ?_
            refine lv_iconst (v := nI 0) hx hb dL_areFrames_151 (by decide) ?_
            have hPc : va_P D vwCl (pm_cl y L S Bs pi kn Gs sv U) H := pq_kept hP0 hS
            refine vp_callSi (W.runV (As := [.int (nI 0)]) (rest := [.int (nI (S 3 k - 1))]) ⟨hx, hb, hml, hown, hts⟩ (k_X3_count l D y L S Bs pi kn Gs sv U Bs Gs (nI 0) hI.1) (cwV 1 hts gL_areFrames_X3_count rfl rfl rfl hd_X3_count ⟨Nat.le_of_ble_eq_true rfl, Nat.le_of_ble_eq_true rfl⟩) ⟨pm_ron_blind, va_recv hK hPc (ci := 3) (q0 := 0) rfl rfl, pm_ron_pre hPc hK hN⟩ rfl rfl hl.1 rfl (lv_room (Nat.le_of_ble_eq_true rfl)) dL_areFrames_152 ⟨Nat.le_of_ble_eq_true rfl, Nat.le_of_ble_eq_true rfl⟩) (fun r651 h652 => ?_)
            obtain rfl : r651 = nI (S 10 0) := h652.trans (pq_co0)
            have := hI.1.rnd
            refine kx_icmp_ge (tgt := 180) hx hb (by omega) (by omega) dL_areFrames_155 (by decide) (fun c653 => by exfalso; omega) (fun c653 => ?_)
            refine lv_goto (tgt := 166) hx hb dL_areFrames_158 (by decide) ?_
            refine lv_aload_n hx hb dL_areFrames_166 rfl (lv_at hl 5 rfl) ?_
            refine lv_iload hx hb dL_areFrames_167 (lv_at hl 13 rfl) ?_
            refine lv_iconst (v := nI 3) hx hb dL_areFrames_169 (by decide) ?_
            have hPc : va_P D vwCl (pm_cl y L S Bs pi kn Gs sv U) H := pq_kept hP0 hS
            refine vp_callSi (W.runV (As := [.int (nI k), .int (nI 3)]) (rest := []) ⟨hx, hb, hml, hown, hts⟩ (k_X3_of l D y L S Bs pi kn Gs sv U Bs Gs (nI k) (nI 3) hI.1) (cwV 2 hts gL_areFrames_X3_of rfl rfl rfl hd_X3_of ⟨Nat.le_of_ble_eq_true rfl, Nat.le_of_ble_eq_true rfl⟩) ⟨pm_ro_blind, va_recv hK hPc (ci := 3) (q0 := 0) rfl rfl, pm_ro_pre hPc hK⟩ rfl rfl hl.1 rfl (lv_room (Nat.le_of_ble_eq_true rfl)) dL_areFrames_170 ⟨Nat.le_of_ble_eq_true rfl, Nat.le_of_ble_eq_true rfl⟩) (fun r654 h655 => ?_)
            obtain rfl : r654 = nI (S 1 k) := h655.trans (pq_of3 (by omega))
            have := hI.1.dull k (by omega)
            have := hI.1.rnd
            refine kx_if_lt (tgt := 180) hx hb (by omega) dL_areFrames_173 (by decide) ?_
            refine lv_iconst (v := nI 1) hx hb dL_areFrames_176 (by decide) ?_
            refine lv_goto (tgt := 181) hx hb dL_areFrames_177 (by decide) ?_
            refine lv_istore (lv' := [(14, .int (nI 1)), (13, .int (nI 1)), (12, .int (nI (S 2 k))), (11, .int (nI (pm_ck (S 4 k)))), (10, .int (nI (pm_tk (S 4 k)))), (9, .int (nI 3)), (0, .ref (L 0 0)), (1, .ref aw), (2, .int (nI (pm_pf S k))), (3, .int (nI (pm_rl S k))), (4, .int (nI (pm_lm S k))), (5, .int (nI (pm_bc S 1 k))), (6, .int (nI (pm_bc S 2 k))), (7, .int (nI (pm_bc S 0 k))), (8, .int (nI k))]) hx hb dL_areFrames_181 hl (by decide) rfl (fun ls hl => ?_)
            refine lv_iload hx hb dL_areFrames_183 (lv_at hl 5 rfl) ?_
            refine lv_if_eq (tgt := 192) hx hb dL_areFrames_185 (by decide) (fun c656 => absurd c656 (by decide)) (fun _ => ?_)
            refine lv_iconst (v := nI 1) hx hb dL_areFrames_188 (by decide) ?_
            refine lv_goto (tgt := 220) hx hb dL_areFrames_189 (by decide) ?_
            refine lv_istore (lv' := [(15, .int (nI 1)), (14, .int (nI 1)), (13, .int (nI 1)), (12, .int (nI (S 2 k))), (11, .int (nI (pm_ck (S 4 k)))), (10, .int (nI (pm_tk (S 4 k)))), (9, .int (nI 3)), (0, .ref (L 0 0)), (1, .ref aw), (2, .int (nI (pm_pf S k))), (3, .int (nI (pm_rl S k))), (4, .int (nI (pm_lm S k))), (5, .int (nI (pm_bc S 1 k))), (6, .int (nI (pm_bc S 2 k))), (7, .int (nI (pm_bc S 0 k))), (8, .int (nI k))]) hx hb dL_areFrames_220 hl (by decide) rfl (fun ls hl => ?_)
            refine lv_iload hx hb dL_areFrames_222 (lv_at hl 1 rfl) ?_
            refine lv_if_eq (tgt := 252) hx hb dL_areFrames_224 (by decide) (fun c657 => absurd c657 (by decide)) (fun _ => ?_)
            refine lv_aload_n hx hb dL_areFrames_227 rfl (lv_at hl 7 rfl) ?_
            refine lv_iload hx hb dL_areFrames_228 (lv_at hl 15 rfl) ?_
            have hPc : va_P D vwCl (pm_cl y L S Bs pi kn Gs sv U) H := pq_kept hP0 hS
            refine vp_callSi (W.runV (As := [.int (nI k)]) (rest := []) ⟨hx, hb, hml, hown, hts⟩ (k_X3_why l D y L S Bs pi kn Gs sv U Bs Gs (nI k) hI.1) (cwV 1 hts gL_areFrames_X3_why rfl rfl rfl hd_X3_why ⟨Nat.le_of_ble_eq_true rfl, Nat.le_of_ble_eq_true rfl⟩) ⟨pm_ro_blind, va_recv hK hPc (ci := 3) (q0 := 0) rfl rfl, pm_ro_pre hPc hK⟩ rfl rfl hl.1 rfl (lv_room (Nat.le_of_ble_eq_true rfl)) dL_areFrames_230 ⟨Nat.le_of_ble_eq_true rfl, Nat.le_of_ble_eq_true rfl⟩) (fun r658 h659 => ?_)
            obtain rfl : r658 = nI 1 := h659.trans (hw)
            refine lv_iload hx hb dL_areFrames_233 (lv_at hl 0 rfl) ?_
            refine lv_icmp_ne (tgt := 252) hx hb dL_areFrames_235 (by decide) (fun c660 => (c660 (by decide)).elim) (fun _ => ?_)
            refine lv_iload hx hb dL_areFrames_238 (lv_at hl 6 rfl) ?_
            refine lv_if_eq (tgt := 254) hx hb dL_areFrames_240 (by decide) (fun c661 => absurd c661 (by decide)) (fun _ => ?_)
            refine lv_aload_n hx hb dL_areFrames_243 rfl (lv_at hl 7 rfl) ?_
            refine lv_iload hx hb dL_areFrames_244 (lv_at hl 15 rfl) ?_
            have hPc : va_P D vwCl (pm_cl y L S Bs pi kn Gs sv U) H := pq_kept hP0 hS
            refine vp_callSi (W.runV (As := [.int (nI k)]) (rest := []) ⟨hx, hb, hml, hown, hts⟩ (k_X3_decides l D y L S Bs pi kn Gs sv U Bs Gs (nI k) hI.1) (cwV 1 hts gL_areFrames_X3_decides rfl rfl rfl hd_X3_decides ⟨Nat.le_of_ble_eq_true rfl, Nat.le_of_ble_eq_true rfl⟩) ⟨pm_ro_blind, va_recv hK hPc (ci := 3) (q0 := 0) rfl rfl, pm_ro_pre hPc hK⟩ rfl rfl hl.1 rfl (lv_room (Nat.le_of_ble_eq_true rfl)) dL_areFrames_246 ⟨Nat.le_of_ble_eq_true rfl, Nat.le_of_ble_eq_true rfl⟩) (fun r662 h663 => ?_)
            obtain rfl : r662 = nI (pm_ds S k 3) := h663.trans (pq_dec (by omega))
            have := pm_ds_lt S k 3
            refine lv_topi (fun x664 e665 => ?_)
            obtain rfl : x664 = nI 0 := e665.trans (congrArg nI (pq_ds0 (by omega) 3))
            refine lv_if_eq (tgt := 254) hx hb dL_areFrames_249 (by decide) (fun _ => ?_) (fun c666 => (c666 (by decide)).elim)
            refine lv_aload_n hx hb dL_areFrames_254 rfl (lv_at hl 8 rfl) ?_
            refine lv_iload hx hb dL_areFrames_255 (lv_at hl 6 rfl) ?_
            refine lv_dup2_11 hx hb dL_areFrames_257 rfl rfl ?_
            refine kx_iald (v := nI (pm_hm S 3 k)) hx hb hK hP 0 0 rfl rfl (by decide) (by decide) rfl dL_areFrames_258 ?_
            refine lv_iconst (v := nI 1) hx hb dL_areFrames_259 (by decide) ?_
            refine kx_iadd hx hb dL_areFrames_260 ?_
            refine kx_iast (ws' := [(aw, .inl (y 0, 4, .inl (pm_vn (fun j => pm_hm S j (k + 1)))))]) hx hb hK hP hD hS 0 0 rfl rfl (by decide) (by decide) (pq_how h0) rfl dL_areFrames_261 (fun H locs hP hD hS => ?_)
            refine lv_iload_n hx hb dL_areFrames_262 rfl (lv_at hl 9 rfl) ?_
            refine lv_iload hx hb dL_areFrames_263 (lv_at hl 6 rfl) ?_
            refine lv_iconst (v := nI 1) hx hb dL_areFrames_265 (by decide) ?_
            refine lv_icmp_ne (tgt := 280) hx hb dL_areFrames_266 (by decide) (fun _ => ?_) (fun c667 => absurd c667 (by decide))
            refine lv_iconst (v := nI 0) hx hb dL_areFrames_280 (by decide) ?_
            refine kx_iadd hx hb dL_areFrames_281 ?_
            refine lv_istore_n (lv' := [(2, .int (nI ((pm_pf S k) + 0))), (15, .int (nI 1)), (14, .int (nI 1)), (13, .int (nI 1)), (12, .int (nI (S 2 k))), (11, .int (nI (pm_ck (S 4 k)))), (10, .int (nI (pm_tk (S 4 k)))), (9, .int (nI 3)), (0, .ref (L 0 0)), (1, .ref aw), (3, .int (nI (pm_rl S k))), (4, .int (nI (pm_lm S k))), (5, .int (nI (pm_bc S 1 k))), (6, .int (nI (pm_bc S 2 k))), (7, .int (nI (pm_bc S 0 k))), (8, .int (nI k))]) hx hb dL_areFrames_282 rfl hl (by decide) rfl (fun ls hl => ?_)
            refine lv_iload hx hb dL_areFrames_283 (lv_at hl 3 rfl) ?_
            refine lv_if_ne (tgt := 292) hx hb dL_areFrames_285 (by decide) (fun _ => ?_) (fun c668 => absurd c668 (by decide))
            refine lv_iload hx hb dL_areFrames_292 (lv_at hl 15 rfl) ?_
            refine lv_bipush (v := nI 6) hx hb dL_areFrames_294 (by decide) ?_
            refine kx_irem hx hb (by omega) (by omega) (by omega) dL_areFrames_296 ?_
            refine kx_if_ne (tgt := 304) hx hb (by omega) dL_areFrames_297 (by decide) (fun c669 => ?_) (fun c669 => by exfalso; omega)
            refine lv_iload_n hx hb dL_areFrames_304 rfl (lv_at hl 10 rfl) ?_
            refine lv_iconst (v := nI 1) hx hb dL_areFrames_305 (by decide) ?_
            refine kx_iadd hx hb dL_areFrames_306 ?_
            refine lv_istore_n (lv' := [(3, .int (nI ((pm_rl S k) + 1))), (2, .int (nI ((pm_pf S k) + 0))), (15, .int (nI 1)), (14, .int (nI 1)), (13, .int (nI 1)), (12, .int (nI (S 2 k))), (11, .int (nI (pm_ck (S 4 k)))), (10, .int (nI (pm_tk (S 4 k)))), (9, .int (nI 3)), (0, .ref (L 0 0)), (1, .ref aw), (4, .int (nI (pm_lm S k))), (5, .int (nI (pm_bc S 1 k))), (6, .int (nI (pm_bc S 2 k))), (7, .int (nI (pm_bc S 0 k))), (8, .int (nI k))]) hx hb dL_areFrames_307 rfl hl (by decide) rfl (fun ls hl => ?_)
            refine lv_iload_n hx hb dL_areFrames_308 rfl (lv_at hl 0 rfl) ?_
            refine lv_iload hx hb dL_areFrames_309 (lv_at hl 11 rfl) ?_
            refine kx_icmp_le (tgt := 318) hx hb (by omega) (by omega) dL_areFrames_311 (by decide) (fun c670 => ?_) (fun c670 => ?_)
            · skip
              refine lv_iload hx hb dL_areFrames_318 (lv_at hl 11 rfl) ?_
              refine lv_istore (lv' := [(4, .int (nI (pm_lm S k))), (3, .int (nI ((pm_rl S k) + 1))), (2, .int (nI ((pm_pf S k) + 0))), (15, .int (nI 1)), (14, .int (nI 1)), (13, .int (nI 1)), (12, .int (nI (S 2 k))), (11, .int (nI (pm_ck (S 4 k)))), (10, .int (nI (pm_tk (S 4 k)))), (9, .int (nI 3)), (0, .ref (L 0 0)), (1, .ref aw), (5, .int (nI (pm_bc S 1 k))), (6, .int (nI (pm_bc S 2 k))), (7, .int (nI (pm_bc S 0 k))), (8, .int (nI k))]) hx hb dL_areFrames_320 hl (by decide) rfl (fun ls hl => ?_)
              refine lv_iload hx hb dL_areFrames_322 (lv_at hl 8 rfl) ?_
              refine lv_iload hx hb dL_areFrames_324 (lv_at hl 7 rfl) ?_
              refine kx_iadd hx hb dL_areFrames_326 ?_
              refine kx_if_ne (tgt := 334) hx hb (by omega) dL_areFrames_327 (by decide) (fun c671 => by exfalso; omega) (fun c671 => ?_)
              refine lv_iconst (v := nI 1) hx hb dL_areFrames_330 (by decide) ?_
              refine lv_goto (tgt := 335) hx hb dL_areFrames_331 (by decide) ?_
              refine lv_istore (lv' := [(16, .int (nI 1)), (4, .int (nI (pm_lm S k))), (3, .int (nI ((pm_rl S k) + 1))), (2, .int (nI ((pm_pf S k) + 0))), (15, .int (nI 1)), (14, .int (nI 1)), (13, .int (nI 1)), (12, .int (nI (S 2 k))), (11, .int (nI (pm_ck (S 4 k)))), (10, .int (nI (pm_tk (S 4 k)))), (9, .int (nI 3)), (0, .ref (L 0 0)), (1, .ref aw), (5, .int (nI (pm_bc S 1 k))), (6, .int (nI (pm_bc S 2 k))), (7, .int (nI (pm_bc S 0 k))), (8, .int (nI k))]) hx hb dL_areFrames_335 hl (by decide) rfl (fun ls hl => ?_)
              refine lv_iload hx hb dL_areFrames_337 (lv_at hl 10 rfl) ?_
              refine lv_if_ne (tgt := 393) hx hb dL_areFrames_339 (by decide) (fun _ => ?_) (fun c672 => absurd c672 (by decide))
              refine lv_iconst (v := nI 0) hx hb dL_areFrames_393 (by decide) ?_
              refine lv_istore (lv' := [(17, .int (nI 0)), (16, .int (nI 1)), (4, .int (nI (pm_lm S k))), (3, .int (nI ((pm_rl S k) + 1))), (2, .int (nI ((pm_pf S k) + 0))), (15, .int (nI 1)), (14, .int (nI 1)), (13, .int (nI 1)), (12, .int (nI (S 2 k))), (11, .int (nI (pm_ck (S 4 k)))), (10, .int (nI (pm_tk (S 4 k)))), (9, .int (nI 3)), (0, .ref (L 0 0)), (1, .ref aw), (5, .int (nI (pm_bc S 1 k))), (6, .int (nI (pm_bc S 2 k))), (7, .int (nI (pm_bc S 0 k))), (8, .int (nI k))]) hx hb dL_areFrames_394 hl (by decide) rfl (fun ls hl => ?_)
              refine lv_iload hx hb dL_areFrames_396 (lv_at hl 14 rfl) ?_
              refine lv_iload hx hb dL_areFrames_398 (lv_at hl 5 rfl) ?_
              refine lv_if_ne (tgt := 407) hx hb dL_areFrames_400 (by decide) (fun _ => ?_) (fun c673 => absurd c673 (by decide))
              refine lv_iconst (v := nI 0) hx hb dL_areFrames_407 (by decide) ?_
              refine kx_iadd hx hb dL_areFrames_408 ?_
              refine lv_istore (lv' := [(5, .int (nI ((pm_bc S 1 k) + 0))), (17, .int (nI 0)), (16, .int (nI 1)), (4, .int (nI (pm_lm S k))), (3, .int (nI ((pm_rl S k) + 1))), (2, .int (nI ((pm_pf S k) + 0))), (15, .int (nI 1)), (14, .int (nI 1)), (13, .int (nI 1)), (12, .int (nI (S 2 k))), (11, .int (nI (pm_ck (S 4 k)))), (10, .int (nI (pm_tk (S 4 k)))), (9, .int (nI 3)), (0, .ref (L 0 0)), (1, .ref aw), (6, .int (nI (pm_bc S 2 k))), (7, .int (nI (pm_bc S 0 k))), (8, .int (nI k))]) hx hb dL_areFrames_409 hl (by decide) rfl (fun ls hl => ?_)
              refine lv_iload hx hb dL_areFrames_411 (lv_at hl 15 rfl) ?_
              refine lv_iload hx hb dL_areFrames_413 (lv_at hl 1 rfl) ?_
              refine lv_if_eq (tgt := 422) hx hb dL_areFrames_415 (by decide) (fun _ => ?_) (fun c674 => (c674 (by decide)).elim)
              refine lv_iconst (v := nI 0) hx hb dL_areFrames_422 (by decide) ?_
              refine kx_iadd hx hb dL_areFrames_423 ?_
              refine lv_istore (lv' := [(6, .int (nI ((pm_bc S 2 k) + 0))), (5, .int (nI ((pm_bc S 1 k) + 0))), (17, .int (nI 0)), (16, .int (nI 1)), (4, .int (nI (pm_lm S k))), (3, .int (nI ((pm_rl S k) + 1))), (2, .int (nI ((pm_pf S k) + 0))), (15, .int (nI 1)), (14, .int (nI 1)), (13, .int (nI 1)), (12, .int (nI (S 2 k))), (11, .int (nI (pm_ck (S 4 k)))), (10, .int (nI (pm_tk (S 4 k)))), (9, .int (nI 3)), (0, .ref (L 0 0)), (1, .ref aw), (7, .int (nI (pm_bc S 0 k))), (8, .int (nI k))]) hx hb dL_areFrames_424 hl (by decide) rfl (fun ls hl => ?_)
              refine lv_iload hx hb dL_areFrames_426 (lv_at hl 16 rfl) ?_
              refine lv_iload hx hb dL_areFrames_428 (lv_at hl 13 rfl) ?_
              refine lv_if_ne (tgt := 447) hx hb dL_areFrames_430 (by decide) (fun _ => ?_) (fun c675 => absurd c675 (by decide))
              refine lv_iconst (v := nI 0) hx hb dL_areFrames_447 (by decide) ?_
              refine kx_iadd hx hb dL_areFrames_448 ?_
              refine lv_istore (lv' := [(7, .int (nI ((pm_bc S 0 k) + 0))), (6, .int (nI ((pm_bc S 2 k) + 0))), (5, .int (nI ((pm_bc S 1 k) + 0))), (17, .int (nI 0)), (16, .int (nI 1)), (4, .int (nI (pm_lm S k))), (3, .int (nI ((pm_rl S k) + 1))), (2, .int (nI ((pm_pf S k) + 0))), (15, .int (nI 1)), (14, .int (nI 1)), (13, .int (nI 1)), (12, .int (nI (S 2 k))), (11, .int (nI (pm_ck (S 4 k)))), (10, .int (nI (pm_tk (S 4 k)))), (9, .int (nI 3)), (0, .ref (L 0 0)), (1, .ref aw), (8, .int (nI k))]) hx hb dL_areFrames_449 hl (by decide) rfl (fun ls hl => ?_)
              refine kx_iinc (a := k) (lv' := [(8, .int (nI (k + 1))), (7, .int (nI ((pm_bc S 0 k) + 0))), (6, .int (nI ((pm_bc S 2 k) + 0))), (5, .int (nI ((pm_bc S 1 k) + 0))), (17, .int (nI 0)), (16, .int (nI 1)), (4, .int (nI (pm_lm S k))), (3, .int (nI ((pm_rl S k) + 1))), (2, .int (nI ((pm_pf S k) + 0))), (15, .int (nI 1)), (14, .int (nI 1)), (13, .int (nI 1)), (12, .int (nI (S 2 k))), (11, .int (nI (pm_ck (S 4 k)))), (10, .int (nI (pm_tk (S 4 k)))), (9, .int (nI 3)), (0, .ref (L 0 0)), (1, .ref aw)]) hx hb dL_areFrames_451 hl (k := 17) rfl (by decide) rfl (fun ls hl => ?_)
              refine lv_goto (tgt := 23) hx hb dL_areFrames_454 (by decide) ?_
              have q676 : (nI (pm_pf S (k + 1)) : Int32) = nI ((pm_pf S k) + 0) := (congrArg nI (pm_pf_n (by omega)))
              have q677 : (nI (pm_rl S (k + 1)) : Int32) = nI ((pm_rl S k) + 1) := (congrArg nI hrl)
              have q678 : (nI (pm_lm S (k + 1)) : Int32) = nI (pm_lm S k) := (congrArg nI (by rw [pq_lm hrl]; split <;> omega))
              have q679 : (nI (pm_bc S 1 (k + 1)) : Int32) = nI ((pm_bc S 1 k) + 0) := (congrArg nI (pq_bcn (by omega) 1))
              have q680 : (nI (pm_bc S 2 (k + 1)) : Int32) = nI ((pm_bc S 2 k) + 0) := (congrArg nI (pq_bcn (by omega) 2))
              have q681 : (nI (pm_bc S 0 (k + 1)) : Int32) = nI ((pm_bc S 0 k) + 0) := (congrArg nI (pq_bcn (by omega) 0))
              exact ih3 (k + 1) ls H locs hP hD hS (by omega) (by omega) (by rw [q676, q677, q678, q679, q680, q681]; exact lv_sub hl [16, 17, 8, 7, 6, 3, 2, 1, 0] rfl) 
            · skip
              refine lv_iload_n hx hb dL_areFrames_314 rfl (lv_at hl 0 rfl) ?_
              refine lv_goto (tgt := 320) hx hb dL_areFrames_315 (by decide) ?_
              refine lv_istore (lv' := [(4, .int (nI ((pm_rl S k) + 1))), (3, .int (nI ((pm_rl S k) + 1))), (2, .int (nI ((pm_pf S k) + 0))), (15, .int (nI 1)), (14, .int (nI 1)), (13, .int (nI 1)), (12, .int (nI (S 2 k))), (11, .int (nI (pm_ck (S 4 k)))), (10, .int (nI (pm_tk (S 4 k)))), (9, .int (nI 3)), (0, .ref (L 0 0)), (1, .ref aw), (5, .int (nI (pm_bc S 1 k))), (6, .int (nI (pm_bc S 2 k))), (7, .int (nI (pm_bc S 0 k))), (8, .int (nI k))]) hx hb dL_areFrames_320 hl (by decide) rfl (fun ls hl => ?_)
              refine lv_iload hx hb dL_areFrames_322 (lv_at hl 8 rfl) ?_
              refine lv_iload hx hb dL_areFrames_324 (lv_at hl 7 rfl) ?_
              refine kx_iadd hx hb dL_areFrames_326 ?_
              refine kx_if_ne (tgt := 334) hx hb (by omega) dL_areFrames_327 (by decide) (fun c682 => by exfalso; omega) (fun c682 => ?_)
              refine lv_iconst (v := nI 1) hx hb dL_areFrames_330 (by decide) ?_
              refine lv_goto (tgt := 335) hx hb dL_areFrames_331 (by decide) ?_
              refine lv_istore (lv' := [(16, .int (nI 1)), (4, .int (nI ((pm_rl S k) + 1))), (3, .int (nI ((pm_rl S k) + 1))), (2, .int (nI ((pm_pf S k) + 0))), (15, .int (nI 1)), (14, .int (nI 1)), (13, .int (nI 1)), (12, .int (nI (S 2 k))), (11, .int (nI (pm_ck (S 4 k)))), (10, .int (nI (pm_tk (S 4 k)))), (9, .int (nI 3)), (0, .ref (L 0 0)), (1, .ref aw), (5, .int (nI (pm_bc S 1 k))), (6, .int (nI (pm_bc S 2 k))), (7, .int (nI (pm_bc S 0 k))), (8, .int (nI k))]) hx hb dL_areFrames_335 hl (by decide) rfl (fun ls hl => ?_)
              refine lv_iload hx hb dL_areFrames_337 (lv_at hl 10 rfl) ?_
              refine lv_if_ne (tgt := 393) hx hb dL_areFrames_339 (by decide) (fun _ => ?_) (fun c683 => absurd c683 (by decide))
              refine lv_iconst (v := nI 0) hx hb dL_areFrames_393 (by decide) ?_
              refine lv_istore (lv' := [(17, .int (nI 0)), (16, .int (nI 1)), (4, .int (nI ((pm_rl S k) + 1))), (3, .int (nI ((pm_rl S k) + 1))), (2, .int (nI ((pm_pf S k) + 0))), (15, .int (nI 1)), (14, .int (nI 1)), (13, .int (nI 1)), (12, .int (nI (S 2 k))), (11, .int (nI (pm_ck (S 4 k)))), (10, .int (nI (pm_tk (S 4 k)))), (9, .int (nI 3)), (0, .ref (L 0 0)), (1, .ref aw), (5, .int (nI (pm_bc S 1 k))), (6, .int (nI (pm_bc S 2 k))), (7, .int (nI (pm_bc S 0 k))), (8, .int (nI k))]) hx hb dL_areFrames_394 hl (by decide) rfl (fun ls hl => ?_)
              refine lv_iload hx hb dL_areFrames_396 (lv_at hl 14 rfl) ?_
              refine lv_iload hx hb dL_areFrames_398 (lv_at hl 5 rfl) ?_
              refine lv_if_ne (tgt := 407) hx hb dL_areFrames_400 (by decide) (fun _ => ?_) (fun c684 => absurd c684 (by decide))
              refine lv_iconst (v := nI 0) hx hb dL_areFrames_407 (by decide) ?_
              refine kx_iadd hx hb dL_areFrames_408 ?_
              refine lv_istore (lv' := [(5, .int (nI ((pm_bc S 1 k) + 0))), (17, .int (nI 0)), (16, .int (nI 1)), (4, .int (nI ((pm_rl S k) + 1))), (3, .int (nI ((pm_rl S k) + 1))), (2, .int (nI ((pm_pf S k) + 0))), (15, .int (nI 1)), (14, .int (nI 1)), (13, .int (nI 1)), (12, .int (nI (S 2 k))), (11, .int (nI (pm_ck (S 4 k)))), (10, .int (nI (pm_tk (S 4 k)))), (9, .int (nI 3)), (0, .ref (L 0 0)), (1, .ref aw), (6, .int (nI (pm_bc S 2 k))), (7, .int (nI (pm_bc S 0 k))), (8, .int (nI k))]) hx hb dL_areFrames_409 hl (by decide) rfl (fun ls hl => ?_)
              refine lv_iload hx hb dL_areFrames_411 (lv_at hl 15 rfl) ?_
              refine lv_iload hx hb dL_areFrames_413 (lv_at hl 1 rfl) ?_
              refine lv_if_eq (tgt := 422) hx hb dL_areFrames_415 (by decide) (fun _ => ?_) (fun c685 => (c685 (by decide)).elim)
              refine lv_iconst (v := nI 0) hx hb dL_areFrames_422 (by decide) ?_
              refine kx_iadd hx hb dL_areFrames_423 ?_
              refine lv_istore (lv' := [(6, .int (nI ((pm_bc S 2 k) + 0))), (5, .int (nI ((pm_bc S 1 k) + 0))), (17, .int (nI 0)), (16, .int (nI 1)), (4, .int (nI ((pm_rl S k) + 1))), (3, .int (nI ((pm_rl S k) + 1))), (2, .int (nI ((pm_pf S k) + 0))), (15, .int (nI 1)), (14, .int (nI 1)), (13, .int (nI 1)), (12, .int (nI (S 2 k))), (11, .int (nI (pm_ck (S 4 k)))), (10, .int (nI (pm_tk (S 4 k)))), (9, .int (nI 3)), (0, .ref (L 0 0)), (1, .ref aw), (7, .int (nI (pm_bc S 0 k))), (8, .int (nI k))]) hx hb dL_areFrames_424 hl (by decide) rfl (fun ls hl => ?_)
              refine lv_iload hx hb dL_areFrames_426 (lv_at hl 16 rfl) ?_
              refine lv_iload hx hb dL_areFrames_428 (lv_at hl 13 rfl) ?_
              refine lv_if_ne (tgt := 447) hx hb dL_areFrames_430 (by decide) (fun _ => ?_) (fun c686 => absurd c686 (by decide))
              refine lv_iconst (v := nI 0) hx hb dL_areFrames_447 (by decide) ?_
              refine kx_iadd hx hb dL_areFrames_448 ?_
              refine lv_istore (lv' := [(7, .int (nI ((pm_bc S 0 k) + 0))), (6, .int (nI ((pm_bc S 2 k) + 0))), (5, .int (nI ((pm_bc S 1 k) + 0))), (17, .int (nI 0)), (16, .int (nI 1)), (4, .int (nI ((pm_rl S k) + 1))), (3, .int (nI ((pm_rl S k) + 1))), (2, .int (nI ((pm_pf S k) + 0))), (15, .int (nI 1)), (14, .int (nI 1)), (13, .int (nI 1)), (12, .int (nI (S 2 k))), (11, .int (nI (pm_ck (S 4 k)))), (10, .int (nI (pm_tk (S 4 k)))), (9, .int (nI 3)), (0, .ref (L 0 0)), (1, .ref aw), (8, .int (nI k))]) hx hb dL_areFrames_449 hl (by decide) rfl (fun ls hl => ?_)
              refine kx_iinc (a := k) (lv' := [(8, .int (nI (k + 1))), (7, .int (nI ((pm_bc S 0 k) + 0))), (6, .int (nI ((pm_bc S 2 k) + 0))), (5, .int (nI ((pm_bc S 1 k) + 0))), (17, .int (nI 0)), (16, .int (nI 1)), (4, .int (nI ((pm_rl S k) + 1))), (3, .int (nI ((pm_rl S k) + 1))), (2, .int (nI ((pm_pf S k) + 0))), (15, .int (nI 1)), (14, .int (nI 1)), (13, .int (nI 1)), (12, .int (nI (S 2 k))), (11, .int (nI (pm_ck (S 4 k)))), (10, .int (nI (pm_tk (S 4 k)))), (9, .int (nI 3)), (0, .ref (L 0 0)), (1, .ref aw)]) hx hb dL_areFrames_451 hl (k := 17) rfl (by decide) rfl (fun ls hl => ?_)
              refine lv_goto (tgt := 23) hx hb dL_areFrames_454 (by decide) ?_
              have q687 : (nI (pm_pf S (k + 1)) : Int32) = nI ((pm_pf S k) + 0) := (congrArg nI (pm_pf_n (by omega)))
              have q688 : (nI (pm_rl S (k + 1)) : Int32) = nI ((pm_rl S k) + 1) := (congrArg nI hrl)
              have q689 : (nI (pm_lm S (k + 1)) : Int32) = nI ((pm_rl S k) + 1) := (congrArg nI (by rw [pq_lm hrl]; split <;> omega))
              have q690 : (nI (pm_bc S 1 (k + 1)) : Int32) = nI ((pm_bc S 1 k) + 0) := (congrArg nI (pq_bcn (by omega) 1))
              have q691 : (nI (pm_bc S 2 (k + 1)) : Int32) = nI ((pm_bc S 2 k) + 0) := (congrArg nI (pq_bcn (by omega) 2))
              have q692 : (nI (pm_bc S 0 (k + 1)) : Int32) = nI ((pm_bc S 0 k) + 0) := (congrArg nI (pq_bcn (by omega) 0))
              exact ih3 (k + 1) ls H locs hP hD hS (by omega) (by omega) (by rw [q687, q688, q689, q690, q691, q692]; exact lv_sub hl [16, 17, 8, 7, 6, 3, 2, 1, 0] rfl) 
  exact LOOP23 (30 + 1) 0 ls H _ hP hD hS (by omega) (by omega) (lv_sub hl [8, 7, 6, 5, 4, 3, 2, 1, 0] rfl) 
