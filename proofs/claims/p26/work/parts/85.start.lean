set_option maxHeartbeats 4000000 in
set_option maxRecDepth 100000 in
/-- the law, from its entry -/
theorem whole_start {p : Program} {e : Env} {s : State} {m : MethodId} {below : List Frame} {meth : Method} {c : Code} (l : Launch) (hflags : l.flags = flags0) {b N : Nat} {xs : Nat → Int32} (hL : N ≤ 260) (C0 : lw_At p s m meth c b N xs) : W p l e room_1 s m #[Value.ref b] below meth c s.heap [] 0 0 (lw_Z below #[Value.ref b] s) (entryFrame m ([Value.ref b] : List Value).toArray 4) := by
  obtain ⟨hx, hb, hr, hml, hown, hts0, hX, hbl, hlocks, hgv⟩ := id C0
  have hown : s.vm.findClass RL = some m.cls := hown
  have hts : ∀ w ∈ wsL_law, w.before #[Value.ref b] s = true := fun w hw => hts0 w (wsL_law_in w hw)
  have hA : ∀ q : Nat, s.heap.size ≤ q → (fun q : Nat => s.heap.size ≤ q) q := fun _ h => h
  have hAn : ∀ a : Nat, a < s.heap.size → ¬ (fun q : Nat => s.heap.size ≤ q) a := fun _ h => Nat.not_le.mpr h
  obtain ⟨c0, iS0, hKn0⟩ := u_known (C := RX0) (T := TX0) (N := 2) (n := 2) hts inlX0 (hts0 (.instantiable RX0 2) (by decide +kernel))
  obtain ⟨c1, iS1, hKn1⟩ := u_known (C := RX1) (T := TX1) (N := 8) (n := 8) hts inlX1 (hts0 (.instantiable RX1 8) (by decide +kernel))
  obtain ⟨c2, iS2, hKn2⟩ := u_known (C := RX2) (T := TX2) (N := 15) (n := 15) hts inlX2 (hts0 (.instantiable RX2 15) (by decide +kernel))
  obtain ⟨c3, iS3, hKn3⟩ := u_known (C := RX3) (T := TX3) (N := 5) (n := 5) hts inlX3 (hts0 (.instantiable RX3 5) (by decide +kernel))
  have hO : va_AO RX2 s := va_AO.of (hts0 (.arrayOver (.object RX2)) (by decide +kernel))
  obtain ⟨y0, hy0⟩ := pm_arrI (hts0 (.arrayClass .int) (by decide +kernel))
  obtain ⟨y1, hy1⟩ := pm_arrC (hts0 (.arrayClass .char) (by decide +kernel))
  obtain ⟨y2, hy2⟩ := pm_arrZ (hts0 (.arrayClass .boolean) (by decide +kernel))
  obtain ⟨y3, hy3⟩ := pm_arrQ (hts0 (.arrayOver (.object RX2)) (by decide +kernel))
  obtain ⟨D, y, hK⟩ : ∃ (D : va_G) (y : Nat → ClassId), va_K D vwCl (pm_ty y) s := by
    refine ⟨(fun k => if k = 0 then c0 else if k = 1 then c1 else if k = 2 then c2 else c3, fun k => if k = 0 then iS0 else if k = 1 then iS1 else if k = 2 then iS2 else iS3), fun k => if k = 0 then y0 else if k = 1 then y1 else if k = 2 then y2 else y3, ?_, ?_⟩
    · intro k q hq
      match k, hq with
      | 0, hq => cases hq; exact hKn0
      | 1, hq => cases hq; exact hKn1
      | 2, hq => cases hq; exact hKn2
      | 3, hq => cases hq; exact hKn3
      | k + 4, hq => simp [vwCl] at hq
    · intro k q hq
      match k, hq with
      | 0, hq => cases hq; exact hy0
      | 1, hq => cases hq; exact hy1
      | 2, hq => cases hq; exact hy2
      | 3, hq => cases hq; exact hy3
      | k + 4, hq => simp [pm_ty] at hq
  have hN : pm_NW s := fun q hq => va_Nw.of rfl (hts0 _ (pm_nl_in q hq))
  have hNm : va_Nw (.methodLinkNest RX3 25 yX1_init "ProofMarks") s := va_Nw.of rfl (hts0 (.methodLinkNest RX3 25 yX1_init "ProofMarks") (by decide +kernel))
  have hs := flat_of_before _ hgv
  obtain ⟨tl, hZl, hTl⟩ := pm_st4 (nm := "LEAST_VALUES") (f := pm_lst) (A := fun q : Nat => s.heap.size ≤ q) (hs _ (by decide +kernel)) (hs _ (by decide +kernel)) (hs _ (by decide +kernel)) (hs _ (by decide +kernel)) (hs _ (by decide +kernel)) (hs _ (by decide +kernel)) (hts0 _ (by decide +kernel)) (hts0 _ (by decide +kernel)) hAn
  obtain ⟨tm, hZm, hTm⟩ := pm_st4 (nm := "MOST_VALUES") (f := pm_mst) (A := fun q : Nat => s.heap.size ≤ q) (hs _ (by decide +kernel)) (hs _ (by decide +kernel)) (hs _ (by decide +kernel)) (hs _ (by decide +kernel)) (hs _ (by decide +kernel)) (hs _ (by decide +kernel)) (hts0 _ (by decide +kernel)) (hts0 _ (by decide +kernel)) hAn
  have hT : pm_ST (fun q : Nat => s.heap.size ≤ q) tl tm s := ⟨⟨hZl, hTl⟩, hZm, hTm⟩
  have hS : va_S (fun q : Nat => s.heap.size ≤ q) s.heap s.heap [] := va_S.rf
  have hP : va_P D vwCl [] s.heap := fun k q h => by simp at h
  have hD : va_D (fun q : Nat => s.heap.size ≤ q) [] := ⟨fun i j p q h => by simp at h, fun k q h => by simp at h⟩
  have hl := lv_entry ([.ref b]) (n := 4) (Nat.le_of_ble_eq_true rfl)
  rw [lg_entry_eq]
  generalize (lg_sl ([.ref b]) ++ List.replicate (4 - (lg_sl ([.ref b])).length) Slot.unset).toArray = ls at hl ⊢
  have hl : lv_has ls 4 [(0, .ref b)] := hl
  refine va_new (ci := 3) (fs := [.null, .null, .null, .null, .null]) (C := RX3) (T := TX3) (N := 5) hx hb hts inlX3 tyX3 tyX3_ok hown (hts0 (.classLink RL 9 RX3) (by decide +kernel)) (hts0 (.instantiable RX3 5) (by decide +kernel)) (hts0 (.initialized RX3) (by decide +kernel)) hK hP hD hS hA rfl pm_born3 (Nat.le_of_ble_eq_true rfl) (Nat.le_of_ble_eq_true rfl) dL_law_0 (fun n1 H hP hD hS => ?_)
  refine lv_dup hx hb dL_law_3 rfl ?_
  have hL1 := pm_last hP hD
  have hF := pm_hF hD hA hS.1
  refine va_callv (va_runI (As := []) (rest := [.ref n1]) ⟨hx, hb, hml, hown, hts⟩ (k_X3_init l D y n1 H.size) (cwI 0 hts gL_law_X3_init rfl rfl rfl (hts0 (.initialized RX3) (by decide +kernel)) (hts0 (.methodLink RL 93 yX3_init) (by decide +kernel)) (hts0 (.instanceMethod yX3_init) (by decide +kernel)) rfl hd_X3_init ⟨Nat.le_of_ble_eq_true rfl, Nat.le_of_ble_eq_true rfl⟩) ⟨pm_mkz_blind, pm_mkz_pre hL1.1 hK hL1.2 hO hNm⟩ rfl rfl hl.1 rfl (lv_room (Nat.le_of_ble_eq_true rfl)) dL_law_4 ⟨Nat.le_of_ble_eq_true rfl, Nat.le_of_ble_eq_true rfl⟩) hS (fun q _ h => hF q h) hF (fun L t9 H1 locs ht9 _ h9 hB9 hz9 hk9 hS => ?_)
  obtain ⟨hP8, hD8⟩ := pm_joinN hP hD hk9 hF (by rw [← ht9]; exact hB9.1) hB9.2
  clear hP hD hL1 hF hB9 hk9 ht9
  obtain rfl : n1 = L 0 0 := h9.symm
  have hP : va_P D vwCl (pm_cl y L pm_S0 (fun _ => pm_S0) (fun j => j) 0 (fun _ => pm_S0) (fun _ => 0) pm_U0) H1 := hP8
  have hD : va_D (fun q : Nat => s.heap.size ≤ q) (pm_cl y L pm_S0 (fun _ => pm_S0) (fun j => j) 0 (fun _ => pm_S0) (fun _ => 0) pm_U0) := hD8
  clear hP8 hD8
  refine lv_astore_n (lv' := [(1, .ref (L 0 0)), (0, .ref b)]) hx hb dL_law_7 rfl hl (by decide) rfl (fun ls hl => ?_)
  refine lv_bipush (v := nI 36) hx hb dL_law_8 (by decide) ?_
  refine va_newa (atype := .int) (n := nI 36) (N' := 36) (a0 := (36, .inl (fun _ => 0))) hx hb (hts0 (.arrayClass .int) (by decide +kernel)) rfl hK hP hD hS hA (fun _ => rfl) (by decide) rfl (Nat.le_of_ble_eq_true rfl) (Nat.le_of_ble_eq_true rfl) (Nat.le_of_ble_eq_true rfl) dL_law_10 (fun dd cA H hK1 hP hD hS => ?_)
  obtain rfl := pm_same0 hK hK1
  have hP : va_P D vwCl ((dd, .inl (y 0, 36, .inl (fun _ => 0))) :: pm_cl y L pm_S0 (fun _ => pm_S0) (fun j => j) 0 (fun _ => pm_S0) (fun _ => 0) pm_U0) H := pm_permP List.perm_append_comm hP
  have hD : va_D (fun q : Nat => s.heap.size ≤ q) ((dd, .inl (y 0, 36, .inl (fun _ => 0))) :: pm_cl y L pm_S0 (fun _ => pm_S0) (fun j => j) 0 (fun _ => pm_S0) (fun _ => 0) pm_U0) := pm_permD List.perm_append_comm hD
  refine lv_astore_n (lv' := [(2, .ref dd), (1, .ref (L 0 0)), (0, .ref b)]) hx hb dL_law_12 rfl hl (by decide) rfl (fun ls hl => ?_)
  refine lv_aload_n hx hb dL_law_13 rfl (lv_at hl 1 rfl) ?_
  have hPc : va_P D vwCl (pm_cl y L pm_S0 (fun _ => pm_S0) (fun j => j) 0 (fun _ => pm_S0) (fun _ => 0) pm_U0) H := pq_cut hP
  refine va_calli (va_runS (As := [.ref (L 0 0)]) (rest := []) ⟨hx, hb, hml, hown, hts⟩ (k_L_areFrames l D y L pm_S0 (fun _ => pm_S0) (fun j => j) 0 (fun _ => pm_S0) (fun _ => 0) pm_U0 pq_I0) (va_cwS 1 hts gL_law_L_areFrames rfl rfl rfl hd_L_areFrames ⟨Nat.le_of_ble_eq_true rfl, Nat.le_of_ble_eq_true rfl⟩) ⟨pm_ron_blind, pm_ron_pre hPc hK hN⟩ rfl rfl hl.1 rfl (lv_room (Nat.le_of_ble_eq_true rfl)) dL_law_14 ⟨by show _ ≤ 600000; omega, by show _ ≤ 7302250; omega⟩) hS (fun q _ h => h.elim) (fun q h => h.elim) (fun r1 u6 t3 H1 locs ht4 _ h2 _ _ hk5 hS => ?_)
  obtain rfl : r1 = nI 1 := h2
  have hP : va_P D vwCl ((dd, .inl ((y 0), 36, .inl (fun _ => 0))) :: pm_cl y L pm_S0 (fun _ => pm_S0) (fun j => j) 0 (fun _ => pm_S0) (fun _ => 0) pm_U0) H1 := hP.kept (fun k q hq => hk5 q.1 ((hP k q hq).lt) (fun z => z))
  generalize H1 = H at hP hS ⊢
  refine lv_if_eq (tgt := 58) hx hb dL_law_17 (by decide) (fun c7 => absurd c7 (by decide)) (fun _ => ?_)
  refine lv_aload_n hx hb dL_law_20 rfl (lv_at hl 1 rfl) ?_
  have hPc : va_P D vwCl (pm_cl y L pm_S0 (fun _ => pm_S0) (fun j => j) 0 (fun _ => pm_S0) (fun _ => 0) pm_U0) H := pq_cut hP
  refine vp_callSi (W.runS (As := [.ref (L 0 0)]) (rest := []) ⟨hx, hb, hml, hown, hts⟩ (k_L_areEditors l D y L pm_S0 (fun _ => pm_S0) (fun j => j) 0 (fun _ => pm_S0) (fun _ => 0) pm_U0 pq_I0) (va_cwS 1 hts gL_law_L_areEditors rfl rfl rfl hd_L_areEditors ⟨Nat.le_of_ble_eq_true rfl, Nat.le_of_ble_eq_true rfl⟩) ⟨pm_ron_blind, pm_ron_pre hPc hK hN⟩ rfl rfl hl.1 rfl (lv_room (Nat.le_of_ble_eq_true rfl)) dL_law_21 ⟨by show _ ≤ 600000; omega, by show _ ≤ 7302250; omega⟩) (fun r8 h9 => ?_)
  obtain rfl : r8 = nI 1 := h9
  refine lv_if_eq (tgt := 58) hx hb dL_law_24 (by decide) (fun c14 => absurd c14 (by decide)) (fun _ => ?_)
  refine lv_aload_n hx hb dL_law_27 rfl (lv_at hl 1 rfl) ?_
  refine lv_iconst (v := nI 5) hx hb dL_law_28 (by decide) ?_
  have hPc : va_P D vwCl (pm_cl y L pm_S0 (fun _ => pm_S0) (fun j => j) 0 (fun _ => pm_S0) (fun _ => 0) pm_U0) H := pq_cut hP
  refine vp_callSi (W.runV (As := [.int (nI 5)]) (rest := []) ⟨hx, hb, hml, hown, hts⟩ (k_X3_count l D y L pm_S0 (fun _ => pm_S0) (fun j => j) 0 (fun _ => pm_S0) (fun _ => 0) pm_U0 (fun _ => pm_S0) (fun _ => pm_S0) (nI 5) pq_I0.1) (cwV 1 hts gL_law_X3_count rfl rfl rfl hd_X3_count ⟨Nat.le_of_ble_eq_true rfl, Nat.le_of_ble_eq_true rfl⟩) ⟨pm_ron_blind, va_recv hK hPc (ci := 3) (q0 := 0) rfl rfl, pm_ron_pre hPc hK hN⟩ rfl rfl hl.1 rfl (lv_room (Nat.le_of_ble_eq_true rfl)) dL_law_29 ⟨by show _ ≤ 600000; omega, by show _ ≤ 7302250; omega⟩) (fun r15 h16 => ?_)
  obtain rfl : r15 = nI (pm_S0 10 1) := h16.trans (pq_co5)
  have := pq_I0.1.pap
  refine lv_sipush (v := nI 300) hx hb dL_law_32 (by decide) ?_
  refine kx_icmp_ne (tgt := 58) hx hb (by omega) (by decide) dL_law_35 (by decide) (fun c17 => by exfalso; exact c17 (by decide)) (fun c17 => ?_)
  refine lv_aload_n hx hb dL_law_38 rfl (lv_at hl 1 rfl) ?_
  refine lv_iconst (v := nI 0) hx hb dL_law_39 (by decide) ?_
  refine lv_iconst (v := nI 5) hx hb dL_law_40 (by decide) ?_
  have hPc : va_P D vwCl (pm_cl y L pm_S0 (fun _ => pm_S0) (fun j => j) 0 (fun _ => pm_S0) (fun _ => 0) pm_U0) H := pq_cut hP
  refine vp_callSi (W.runV (As := [.int (nI 0), .int (nI 5)]) (rest := []) ⟨hx, hb, hml, hown, hts⟩ (k_X3_of l D y L pm_S0 (fun _ => pm_S0) (fun j => j) 0 (fun _ => pm_S0) (fun _ => 0) pm_U0 (fun _ => pm_S0) (fun _ => pm_S0) (nI 0) (nI 5) pq_I0.1) (cwV 2 hts gL_law_X3_of rfl rfl rfl hd_X3_of ⟨Nat.le_of_ble_eq_true rfl, Nat.le_of_ble_eq_true rfl⟩) ⟨pm_ro_blind, va_recv hK hPc (ci := 3) (q0 := 0) rfl rfl, pm_ro_pre hPc hK⟩ rfl rfl hl.1 rfl (lv_room (Nat.le_of_ble_eq_true rfl)) dL_law_41 ⟨by show _ ≤ 600000; omega, by show _ ≤ 7302250; omega⟩) (fun r18 h19 => ?_)
  obtain rfl : r18 = pm_ci (pm_S0 3 0) := h19.trans (pq_of5 (by omega))
  have := pq_I0.1.chi 0 (by omega)
  have := pq_I0.1.rnd
  refine lv_topi (fun x20 e21 => ?_)
  obtain rfl : x20 = -6 := e21.trans (by decide)
  refine lv_bipush (v := (-6)) hx hb dL_law_44 (by decide) ?_
  refine lv_icmp_ne (tgt := 58) hx hb dL_law_46 (by decide) (fun c22 => (c22 (by decide)).elim) (fun _ => ?_)
  refine lv_aload_n hx hb dL_law_49 rfl (lv_at hl 1 rfl) ?_
  have hPc : va_P D vwCl (pm_cl y L pm_S0 (fun _ => pm_S0) (fun j => j) 0 (fun _ => pm_S0) (fun _ => 0) pm_U0) H := pq_cut hP
  refine vp_callSi (W.runV (As := []) (rest := []) ⟨hx, hb, hml, hown, hts⟩ (k_X3_undo_0 l D y L pm_S0 (fun _ => pm_S0) (fun j => j) 0 (fun _ => pm_S0) (fun _ => 0) pm_U0 (fun _ => pm_S0) (fun _ => pm_S0) rfl) (cwV 0 hts gL_law_X3_undo rfl rfl rfl hd_X3_undo ⟨Nat.le_of_ble_eq_true rfl, Nat.le_of_ble_eq_true rfl⟩) ⟨pm_ron_blind, va_recv hK hPc (ci := 3) (q0 := 0) rfl rfl, pm_ron_pre hPc hK hN⟩ rfl rfl hl.1 rfl (lv_room (Nat.le_of_ble_eq_true rfl)) dL_law_50 ⟨by show _ ≤ 600000; omega, by show _ ≤ 7302250; omega⟩) (fun r23 h24 => ?_)
  obtain rfl : r23 = -5 := h24
  refine lv_bipush (v := (-5)) hx hb dL_law_53 (by decide) ?_
  refine lv_icmp_eq (tgt := 60) hx hb dL_law_55 (by decide) (fun _ => ?_) (fun c25 => (c25 (by decide)).elim)
  refine lv_iconst (v := nI 0) hx hb dL_law_60 (by decide) ?_
  refine lv_istore_n (lv' := [(3, .int (nI 0)), (2, .ref dd), (1, .ref (L 0 0)), (0, .ref b)]) hx hb dL_law_61 rfl hl (by decide) rfl (fun ls hl => ?_)
  refine W.widen (k := 139 + 0) (n := 2296 + 4 * 0) (Nat.le_of_ble_eq_true rfl) (Nat.le_of_ble_eq_true rfl) ?_
  exact law_loop hL C0 hK hN hT 151 0 (by omega) (by omega) pm_S0 (fun _ => pm_S0) (fun j => j) 0 (fun _ => 0) H locs ls pq_I0 pq_C0 hP hD hS (lv_sub hl [3, 2, 1, 0] rfl)
