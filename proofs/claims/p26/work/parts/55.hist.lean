def pm_kp (pi : Nat → Nat) (kn : Nat) : Nat → Nat := if kn = 6 then pm_rt pi else pi

set_option maxHeartbeats 4000000 in
set_option maxRecDepth 100000 in
theorem k_X0_keep (l : Launch) (D : va_G) (y : Nat → ClassId) (h : Nat → Nat) (b : Nat → Nat → Nat) (Bs : Nat → Nat → Nat → Nat) (pi : Nat → Nat) (kn : Nat) (hpi : ∀ i, i < 7 → pi i < 7) (hkn : kn ≤ 6) : Met l yX0_keep wsX0_keep ({ frames := 0, cells := 0, slots := 0, locals := 0 } : Room) (pm_wr D (pm_ty y) [.ref (h 0)] (pm_hi y h b Bs (pm_rf b pi) kn)) (pm_Qv D (fun (_ : Unit) => True) (fun (_ : Unit) => pm_hi y h b Bs (pm_rf b (pm_kp pi kn)) (pm_kn kn)) (pm_hi y h b Bs (pm_rf b pi) kn)) 0 0 (pm_ad (pm_hi y h b Bs (pm_rf b pi) kn)) := by
  refine Met.ofW (cc := cX0_keep) (maxL := 3) (ret := none) (by decide) rfl ?_
  intro p e s m args below meth c s₁ B hml hpre
  obtain ⟨rfl, hP, hK, hD0⟩ := hpre
  have hx := B.exec
  have hb := B.bytes
  have hr := B.returns
  have hts := atoms_spec (ws := wsX0_keep) B.pre
  have hown : s.vm.findClass RX0 = some m.cls := findClass_of_methodNamed B.named
  have hlocks := B.notSynchronized
  have hin0 : ∀ w ∈ u_ws RX0 TX0 2, w ∈ wsX0_keep := fun w h => List.mem_cons_of_mem _ (List.mem_append_right _ h)
  have hD := pm_ad_self hD0
  have hS : va_S (pm_ad (pm_hi y h b Bs (pm_rf b pi) kn)) s.heap s.heap [] := va_S.rf
  have hP : va_P D vwCl (pm_hi y h b Bs (pm_rf b pi) kn) s.heap := hP
  have hl := lv_entry ([.ref (h 0)]) (n := 3) (Nat.le_of_ble_eq_true rfl)
  rw [lg_entry_eq]
  generalize (lg_sl ([.ref (h 0)]) ++ List.replicate (3 - (lg_sl ([.ref (h 0)])).length) Slot.unset).toArray = ls at hl ⊢
  have hl : lv_has ls 3 [(0, .ref (h 0))] := hl
  refine lv_aload_n hx hb dX0_keep_0 rfl (lv_at hl 0 rfl) ?_
  refine va_get (D := D) (ci := 0) (v := .int (nI kn)) (C := RX0) (T := TX0) (N := 2) hx hb hts hin0 hown hK hP 0 rfl rfl 1 (by decide) (hts (.fieldLink RX0 15 "ProofMarks$History" "kept" "I") (List.mem_of_getElem? (i := 1) rfl)) (fun _ h9 => h9) rfl dX0_keep_1 ?_
  refine lv_bipush (v := nI 6) hx hb dX0_keep_4 (by decide) ?_
  refine kx_icmp_ge (tgt := 20) hx hb (by omega) (by decide) dX0_keep_6 (by decide) (fun c1 => ?_) (fun c1 => ?_)
  · skip
    refine lv_aload_n hx hb dX0_keep_20 rfl (lv_at hl 0 rfl) ?_
    refine va_get (D := D) (ci := 0) (v := .ref (h 1)) (C := RX0) (T := TX0) (N := 2) hx hb hts hin0 hown hK hP 0 rfl rfl 0 (by decide) (hts (.fieldLink RX0 11 "ProofMarks$History" "states" "[LProofMarks$Sheet;") (List.mem_of_getElem? (i := 2) rfl)) (fun _ h9 => h9) rfl dX0_keep_21 ?_
    refine lv_iconst (v := nI 0) hx hb dX0_keep_24 (by decide) ?_
    refine kx_aald (v := b (pi 0) 0) hx hb hK hP 1 3 rfl rfl (by omega) (by decide) rfl dX0_keep_25 ?_
    refine lv_astore_n (lv' := [(1, .ref (b (pi 0) 0)), (0, .ref (h 0))]) hx hb dX0_keep_26 rfl hl (by decide) rfl (fun ls hl => ?_)
    refine lv_iconst (v := nI 0) hx hb dX0_keep_27 (by decide) ?_
    refine lv_istore_n (lv' := [(2, .int (nI 0)), (1, .ref (b (pi 0) 0)), (0, .ref (h 0))]) hx hb dX0_keep_28 rfl hl (by decide) rfl (fun ls hl => ?_)
    have LOOP29 : ∀ (n i : Nat) (ls : Array Slot) (H : Heap) (locs : List Loc), va_P D vwCl (pm_hi y h b Bs (pm_rf b (pm_rot pi i)) kn) H → va_D (pm_ad (pm_hi y h b Bs (pm_rf b pi) kn)) (pm_hi y h b Bs (pm_rf b (pm_rot pi i)) kn) → va_S (pm_ad (pm_hi y h b Bs (pm_rf b pi) kn)) s.heap H locs → i ≤ 6 → 6 - i < n → lv_has ls 3 [(0, .ref (h 0)), (1, .ref (b (pi 0) 0)), (2, .int (nI i))] → W p l e (headSpec wsX0_keep ({ frames := 0, cells := 0, slots := 0, locals := 0 } : Room)).room s m ([.ref (h 0)] : List Value).toArray below meth c H locs 0 0 (MQ below (pm_Qv D (fun (_ : Unit) => True) (fun (_ : Unit) => pm_hi y h b Bs (pm_rf b (pm_kp pi kn)) (pm_kn kn)) (pm_hi y h b Bs (pm_rf b pi) kn)) ([.ref (h 0)] : List Value).toArray s 0 0 (pm_ad (pm_hi y h b Bs (pm_rf b pi) kn))) (F0 m 29 ls []) := by
      intro n
      induction n with
      | zero => intro i _ _ _ _ _ _ hi hn; omega
      | succ n ih2 =>
        intro i ls H locs  hP hD hS hi_i hn_i hl 
        refine lv_iload_n hx hb dX0_keep_29 rfl (lv_at hl 2 rfl) ?_
        refine lv_bipush (v := nI 6) hx hb dX0_keep_30 (by decide) ?_
        refine kx_icmp_ge (tgt := 55) hx hb (by omega) (by decide) dX0_keep_32 (by decide) (fun c3 => ?_) (fun c3 => ?_)
        · skip
          have e4 : i = 6 := by omega
          subst e4
          refine lv_aload_n hx hb dX0_keep_55 rfl (lv_at hl 0 rfl) ?_
          refine va_get (D := D) (ci := 0) (v := .ref (h 1)) (C := RX0) (T := TX0) (N := 2) hx hb hts hin0 hown hK hP 0 rfl rfl 0 (by decide) (hts (.fieldLink RX0 11 "ProofMarks$History" "states" "[LProofMarks$Sheet;") (List.mem_of_getElem? (i := 2) rfl)) (fun _ h9 => h9) rfl dX0_keep_56 ?_
          refine lv_bipush (v := nI 6) hx hb dX0_keep_59 (by decide) ?_
          refine lv_aload_n hx hb dX0_keep_61 rfl (lv_at hl 1 rfl) ?_
          refine kx_astq (ws' := pm_hi y h b Bs (pm_rf b (pm_rt pi)) kn) hx hb hK hP hD hS 1 3 rfl rfl (pm_hi_sh y h b Bs _ _ (hpi 0 (by decide))) (by omega) (by decide) (pm_rt_s b pi) rfl dX0_keep_62 (fun H locs hP hD hS => ?_)
          have E1 : pm_kp pi kn = pm_rt pi := if_pos (by omega)
          have E2 : pm_kn kn = kn := by rw [pm_kn, if_pos (by omega)]; omega
          exact W.vret hx hb hr (fun t ht _ => ⟨⟨(), rfl, trivial, (by show va_P D vwCl (pm_hi y h b Bs (pm_rf b (pm_kp pi kn)) (pm_kn kn)) t.heap; rw [ht]; exact (by rw [E1, E2]; exact hP))⟩, hS.F ht⟩) hS.2.2 dX0_keep_63
        · skip
          refine lv_aload_n hx hb dX0_keep_35 rfl (lv_at hl 0 rfl) ?_
          refine va_get (D := D) (ci := 0) (v := .ref (h 1)) (C := RX0) (T := TX0) (N := 2) hx hb hts hin0 hown hK hP 0 rfl rfl 0 (by decide) (hts (.fieldLink RX0 11 "ProofMarks$History" "states" "[LProofMarks$Sheet;") (List.mem_of_getElem? (i := 2) rfl)) (fun _ h9 => h9) rfl dX0_keep_36 ?_
          refine lv_iload_n hx hb dX0_keep_39 rfl (lv_at hl 2 rfl) ?_
          refine lv_aload_n hx hb dX0_keep_40 rfl (lv_at hl 0 rfl) ?_
          refine va_get (D := D) (ci := 0) (v := .ref (h 1)) (C := RX0) (T := TX0) (N := 2) hx hb hts hin0 hown hK hP 0 rfl rfl 0 (by decide) (hts (.fieldLink RX0 11 "ProofMarks$History" "states" "[LProofMarks$Sheet;") (List.mem_of_getElem? (i := 2) rfl)) (fun _ h9 => h9) rfl dX0_keep_41 ?_
          refine lv_iload_n hx hb dX0_keep_44 rfl (lv_at hl 2 rfl) ?_
          refine lv_iconst (v := nI 1) hx hb dX0_keep_45 (by decide) ?_
          refine kx_iadd hx hb dX0_keep_46 ?_
          refine kx_aald (v := b (pi (i + 1)) 0) hx hb hK hP 1 3 rfl rfl (by omega) (by decide) (pm_rot_j b pi i) dX0_keep_47 ?_
          refine kx_astq (ws' := pm_hi y h b Bs (pm_rf b (pm_rot pi (i + 1))) kn) hx hb hK hP hD hS 1 3 rfl rfl (pm_hi_sh y h b Bs _ _ (hpi (i + 1) (by omega))) (by omega) (by decide) (pm_rot_s b pi i) rfl dX0_keep_48 (fun H locs hP hD hS => ?_)
          refine kx_iinc (a := i) (lv' := [(2, .int (nI (i + 1))), (0, .ref (h 0)), (1, .ref (b (pi 0) 0))]) hx hb dX0_keep_49 hl (k := 2) rfl (by decide) rfl (fun ls hl => ?_)
          refine lv_goto (tgt := 29) hx hb dX0_keep_52 (by decide) ?_
          exact ih2 (i + 1) ls H locs hP hD hS (by omega) (by omega) (by exact lv_sub hl [1, 2, 0] rfl) 
    exact LOOP29 (6 + 1) 0 ls _ _ (by rw [pm_rot_0]; exact hP) (by rw [pm_rot_0]; exact hD) hS (by omega) (by omega) (lv_sub hl [2, 1, 0] rfl) 
  · skip
    refine lv_aload_n hx hb dX0_keep_9 rfl (lv_at hl 0 rfl) ?_
    refine lv_dup hx hb dX0_keep_10 rfl ?_
    refine va_get (D := D) (ci := 0) (v := .int (nI kn)) (C := RX0) (T := TX0) (N := 2) hx hb hts hin0 hown hK hP 0 rfl rfl 1 (by decide) (hts (.fieldLink RX0 15 "ProofMarks$History" "kept" "I") (List.mem_of_getElem? (i := 1) rfl)) (fun _ h9 => h9) rfl dX0_keep_11 ?_
    refine lv_iconst (v := nI 1) hx hb dX0_keep_14 (by decide) ?_
    refine kx_iadd hx hb dX0_keep_15 ?_
    refine kx_put (D := D) (ci := 0) (v := .int (nI (kn + 1))) (ty := .int) (ws' := pm_hi y h b Bs (pm_rf b pi) (kn + 1)) (C := RX0) (T := TX0) (N := 2) hx hb hts hin0 tyX0 tyX0_ok nmX0 hown hK hP hD hS 0 rfl rfl 1 (by decide) (hts (.fieldLink RX0 15 "ProofMarks$History" "kept" "I") (List.mem_of_getElem? (i := 1) rfl)) (fun _ h9 => h9) rfl (by decide +kernel) rfl rfl (Nat.le_of_ble_eq_true rfl) rfl dX0_keep_16 (fun H locs hP hD hS => ?_)
    have E1 : pm_kp pi kn = pi := if_neg (by omega)
    have E2 : pm_kn kn = kn + 1 := if_neg (by omega)
    exact W.vret hx hb hr (fun t ht _ => ⟨⟨(), rfl, trivial, (by show va_P D vwCl (pm_hi y h b Bs (pm_rf b (pm_kp pi kn)) (pm_kn kn)) t.heap; rw [ht]; exact (by rw [E1, E2]; exact hP))⟩, hS.F ht⟩) hS.2.2 dX0_keep_19

