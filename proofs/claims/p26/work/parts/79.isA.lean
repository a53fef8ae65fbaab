theorem pq_arg {S : Nat → Nat → Nat} {x o f : Nat} (hI : pq_I S) (he : x < 3) (ho : o < 3) (hf : f < 30) :
    (x = o ∧ pm_aArgue S (nI x) (nI o) (nI f) = (-2, S)) ∨
    (¬ x = o ∧ (¬ pm_mk (S 4 f) o = 2 ∨ S 5 x < S 9 2) ∧ pm_aArgue S (nI x) (nI o) (nI f) = (-5, S)) ∨
    (¬ x = o ∧ pm_mk (S 4 f) o = 2 ∧ S 9 2 ≤ S 5 x ∧ S 9 2 ≤ S 5 o ∧ ∃ T, pm_aArgue S (nI x) (nI o) (nI f) = (nI 0, T) ∧ T 5 x = S 5 x - S 9 2 ∧ T 5 o = S 5 o - S 9 2 ∧ pm_mk (T 4 f) o = 2 ∧ T 6 x = S 6 x + 1 ∧ T 7 o = S 7 o + 0) ∨
    (¬ x = o ∧ pm_mk (S 4 f) o = 2 ∧ S 9 2 ≤ S 5 x ∧ S 5 o < S 9 2 ∧ ∃ T, pm_aArgue S (nI x) (nI o) (nI f) = (nI 1, T) ∧ T 5 x = S 5 x - S 9 2 ∧ T 5 o = S 5 o ∧ pm_mk (T 4 f) o = 0 ∧ T 6 x = S 6 x + 1 ∧ T 7 o = S 7 o + 1) := by
  have e : pm_aArgue S (nI x) (nI o) (nI f) = if x = o then (-2, S) else if pm_mk (S 4 f) o ≠ 2 ∨ S 5 x < S 9 2 then (-5, S)
        else if S 9 2 ≤ S 5 o then (0, pm_st (pm_st (pm_st S 5 x (S 5 x - S 9 2)) 6 x (S 6 x + 1)) 5 o (S 5 o - S 9 2))
        else (1, pm_st (pm_st (pm_st (pm_st S 5 x (S 5 x - S 9 2)) 6 x (S 6 x + 1)) 4 f (pm_sm (S 4 f) o 0)) 7 o (S 7 o + 1)) := by
    simp only [pm_aArgue, pm_ix_in he (show (3 : Nat) < 2 ^ 31 by decide), pm_ix_in ho (show (3 : Nat) < 2 ^ 31 by decide), pm_ix_in hf (show (30 : Nat) < 2 ^ 31 by decide)]
  rw [e]
  by_cases h1 : x = o
  · exact Or.inl ⟨h1, if_pos h1⟩
  · rw [if_neg h1]
    by_cases h2 : pm_mk (S 4 f) o ≠ 2 ∨ S 5 x < S 9 2
    · exact Or.inr (Or.inl ⟨h1, h2, if_pos h2⟩)
    · rw [if_neg h2]
      have h3 : pm_mk (S 4 f) o = 2 := Decidable.not_not.mp (fun z => h2 (Or.inl z))
      have h4 : S 9 2 ≤ S 5 x := Nat.not_lt.mp (fun z => h2 (Or.inr z))
      have h6 : ¬ o = x := fun z => h1 z.symm
      by_cases h5 : S 9 2 ≤ S 5 o
      · rw [if_pos h5]
        refine Or.inr (Or.inr (Or.inl ⟨h1, h3, h4, h5, _, rfl, ?_, ?_, ?_, ?_, ?_⟩))
        · simp [pm_st, updN, h1]
        · simp [pm_st, updN]
        · simp only [pm_st]; simp; exact h3
        · simp [pm_st, updN]
        · simp [pm_st, updN]
      · rw [if_neg h5]
        refine Or.inr (Or.inr (Or.inr ⟨h1, h3, h4, Nat.not_le.mp h5, _, rfl, ?_, ?_, ?_, ?_, ?_⟩))
        · simp [pm_st, updN]
        · simp [pm_st, updN, h6]
        · have h7 := (pm_T2 (S 4 f) (pm_okb64 (hI.1.okm f hf)) (hI.1.okm f hf) o ho 0 (by decide)).2.2.2
          rw [pm_st_o (by decide), pm_st_s]
          exact h7
        · simp [pm_st, updN]
        · simp [pm_st, updN]
theorem pq_pri {S : Nat → Nat → Nat} {f z w : Nat} (hf : f < 30) (hz : 1 ≤ z) (hz3 : z < 4) (hw : w = 10 * z * z) :
    (¬ (S 0 f = 1 ∧ z ≤ S 2 f ∧ w ≤ S 10 1) ∧ pm_aPrint S (nI f) (nI z) = (-5, S)) ∨
    (S 0 f = 1 ∧ z ≤ S 2 f ∧ w ≤ S 10 1 ∧ ∃ T, pm_aPrint S (nI f) (nI z) = (nI (S 10 1 - w), T) ∧ T 10 1 = S 10 1 - w ∧ T 10 2 = S 10 2 + w ∧ T 11 z = S 11 z + 1 ∧ T 0 f = 3 ∧ T 2 f = z) := by
  subst hw
  have e : pm_aPrint S (nI f) (nI z) = if z = 0 then (-2, S) else if S 0 f ≠ 1 ∨ S 2 f < z ∨ S 10 1 < 10 * z * z then (-5, S)
      else (nI (S 10 1 - 10 * z * z), pm_st (pm_st (pm_st (pm_st (pm_st S 0 f 3) 2 f z) 10 1 (S 10 1 - 10 * z * z)) 10 2 (S 10 2 + 10 * z * z)) 11 z (S 11 z + 1)) := by
    simp only [pm_aPrint, pm_ix_in hf (show (30 : Nat) < 2 ^ 31 by decide), pm_ix_in hz3 (show (4 : Nat) < 2 ^ 31 by decide)]
  rw [e, if_neg (by omega)]
  generalize 10 * z * z = w
  by_cases h : S 0 f ≠ 1 ∨ S 2 f < z ∨ S 10 1 < w
  · exact Or.inl ⟨by omega, if_pos h⟩
  · rw [if_neg h]
    refine Or.inr ⟨by omega, by omega, by omega, _, rfl, ?_, ?_, ?_, ?_, ?_⟩ <;> simp [pm_st, updN]

set_option maxHeartbeats 4000000 in
set_option maxRecDepth 100000 in
theorem k_L_isArgued (l : Launch) (D : va_G) (y : Nat → ClassId) (L : Nat → Nat → Nat) (S : Nat → Nat → Nat) (Bs : Nat → Nat → Nat → Nat) (pi : Nat → Nat) (kn : Nat) (Gs : Nat → Nat → Nat → Nat) (sv : Nat → Nat) (U : pm_PT) (x1 o1 f : Nat) (hI : pq_I S) (hC : pq_C pi kn) (he : x1 < 3) (ho : o1 < 3) (hf : f < 30) : Met l yL_isArgued wsL_isArgued ({ frames := 5, cells := 0, slots := 0, locals := 112 } : Room) (pm_wrn D (pm_ty y) [.ref (L 0 0), .int (nI x1), .int (nI o1), .int (nI f)] (pm_cl y L S Bs pi kn Gs sv U)) (pm_Qi D (fun (r : Int32) (u : pq_T) => r = nI 1 ∧ pq_I u.1 ∧ pq_C u.2.2.1 u.2.2.2) (fun (u : pq_T) => pm_cl y L u.1 u.2.1 u.2.2.1 u.2.2.2 Gs sv U) (pm_cl y L S Bs pi kn Gs sv U)) 0 0 (pm_ad (pm_cl y L S Bs pi kn Gs sv U)) := by
  refine Met.ofW (cc := cL_isArgued) (maxL := 12) (ret := (some .boolean)) (by decide) rfl ?_
  intro p e s m args below meth c s₁ B hml hpre
  obtain ⟨rfl, ⟨hP, hK, hD0⟩, hN⟩ := hpre
  have hx := B.exec
  have hb := B.bytes
  have hr := B.returns
  have hts := atoms_spec (ws := wsL_isArgued) B.pre
  have hown : s.vm.findClass RL = some m.cls := findClass_of_methodNamed B.named
  have hlocks := B.notSynchronized
  have hin3 : ∀ w ∈ u_ws RX3 TX3 5, w ∈ wsL_isArgued := fun w h => List.mem_cons_of_mem _ (List.mem_append_left _ (List.mem_append_left _ (List.mem_append_left _ (List.mem_append_right _ h))))
  have hin1 : ∀ w ∈ u_ws RX1 TX1 8, w ∈ wsL_isArgued := fun w h => List.mem_cons_of_mem _ (List.mem_append_left _ (List.mem_append_left _ (List.mem_append_right _ h)))
  have hin0 : ∀ w ∈ u_ws RX0 TX0 2, w ∈ wsL_isArgued := fun w h => List.mem_cons_of_mem _ (List.mem_append_left _ (List.mem_append_right _ h))
  have hin2 : ∀ w ∈ u_ws RX2 TX2 15, w ∈ wsL_isArgued := fun w h => List.mem_cons_of_mem _ (List.mem_append_right _ h)
  have hD := pm_ad_self hD0
  have hS : va_S (pm_ad (pm_cl y L S Bs pi kn Gs sv U)) s.heap s.heap [] := va_S.rf
  have hP : va_P D vwCl (pm_cl y L S Bs pi kn Gs sv U) s.heap := hP
  have hl := lv_entry ([.ref (L 0 0), .int (nI x1), .int (nI o1), .int (nI f)]) (n := 12) (Nat.le_of_ble_eq_true rfl)
  rw [lg_entry_eq]
  generalize (lg_sl ([.ref (L 0 0), .int (nI x1), .int (nI o1), .int (nI f)]) ++ List.replicate (12 - (lg_sl ([.ref (L 0 0), .int (nI x1), .int (nI o1), .int (nI f)])).length) Slot.unset).toArray = ls at hl ⊢
  have hl : lv_has ls 12 [(0, .ref (L 0 0)), (1, .int (nI x1)), (2, .int (nI o1)), (3, .int (nI f))] := hl
  refine lv_aload_n hx hb dL_isArgued_0 rfl (lv_at hl 0 rfl) ?_
  refine lv_bipush (v := nI 13) hx hb dL_isArgued_1 (by decide) ?_
  refine vp_callSi (W.runV (As := [.int (nI 13)]) (rest := []) ⟨hx, hb, hml, hown, hts⟩ (k_X3_count l D y L S Bs pi kn Gs sv U Bs Gs (nI 13) hI.1) (cwV 1 hts gL_isArgued_X3_count rfl rfl rfl hd_X3_count ⟨Nat.le_of_ble_eq_true rfl, Nat.le_of_ble_eq_true rfl⟩) ⟨pm_ron_blind, va_recv hK hP (ci := 3) (q0 := 0) rfl rfl, pm_ron_pre hP hK hN⟩ rfl rfl hl.1 rfl (lv_room (Nat.le_of_ble_eq_true rfl)) dL_isArgued_3 ⟨Nat.le_of_ble_eq_true rfl, Nat.le_of_ble_eq_true rfl⟩) (fun r1 h2 => ?_)
  obtain rfl : r1 = nI (S 9 2) := h2.trans (pq_co13)
  have := hI.1.set
  refine lv_istore (lv' := [(4, .int (nI (S 9 2))), (0, .ref (L 0 0)), (1, .int (nI x1)), (2, .int (nI o1)), (3, .int (nI f))]) hx hb dL_isArgued_6 hl (by decide) rfl (fun ls hl => ?_)
  refine lv_aload_n hx hb dL_isArgued_8 rfl (lv_at hl 1 rfl) ?_
  refine lv_iload_n hx hb dL_isArgued_9 rfl (lv_at hl 2 rfl) ?_
  refine lv_iconst (v := nI 0) hx hb dL_isArgued_10 (by decide) ?_
  refine vp_callSi (W.runV (As := [.int (nI x1), .int (nI 0)]) (rest := []) ⟨hx, hb, hml, hown, hts⟩ (k_X3_editor l D y L S Bs pi kn Gs sv U Bs Gs (nI x1) (nI 0) hI.1) (cwV 2 hts gL_isArgued_X3_editor rfl rfl rfl hd_X3_editor ⟨Nat.le_of_ble_eq_true rfl, Nat.le_of_ble_eq_true rfl⟩) ⟨pm_ro_blind, va_recv hK hP (ci := 3) (q0 := 0) rfl rfl, pm_ro_pre hP hK⟩ rfl rfl hl.1 rfl (lv_room (Nat.le_of_ble_eq_true rfl)) dL_isArgued_11 ⟨Nat.le_of_ble_eq_true rfl, Nat.le_of_ble_eq_true rfl⟩) (fun r3 h4 => ?_)
  obtain rfl : r3 = nI (S 5 x1) := h4.trans (pq_ed0 (by omega))
  have := hI.1.pts x1 (by omega)
  refine lv_istore (lv' := [(5, .int (nI (S 5 x1))), (4, .int (nI (S 9 2))), (0, .ref (L 0 0)), (1, .int (nI x1)), (2, .int (nI o1)), (3, .int (nI f))]) hx hb dL_isArgued_14 hl (by decide) rfl (fun ls hl => ?_)
  refine lv_aload_n hx hb dL_isArgued_16 rfl (lv_at hl 2 rfl) ?_
  refine lv_iload_n hx hb dL_isArgued_17 rfl (lv_at hl 4 rfl) ?_
  refine lv_iconst (v := nI 0) hx hb dL_isArgued_18 (by decide) ?_
  refine vp_callSi (W.runV (As := [.int (nI o1), .int (nI 0)]) (rest := []) ⟨hx, hb, hml, hown, hts⟩ (k_X3_editor l D y L S Bs pi kn Gs sv U Bs Gs (nI o1) (nI 0) hI.1) (cwV 2 hts gL_isArgued_X3_editor rfl rfl rfl hd_X3_editor ⟨Nat.le_of_ble_eq_true rfl, Nat.le_of_ble_eq_true rfl⟩) ⟨pm_ro_blind, va_recv hK hP (ci := 3) (q0 := 0) rfl rfl, pm_ro_pre hP hK⟩ rfl rfl hl.1 rfl (lv_room (Nat.le_of_ble_eq_true rfl)) dL_isArgued_19 ⟨Nat.le_of_ble_eq_true rfl, Nat.le_of_ble_eq_true rfl⟩) (fun r5 h6 => ?_)
  obtain rfl : r5 = nI (S 5 o1) := h6.trans (pq_ed0 (by omega))
  have := hI.1.pts o1 (by omega)
  refine lv_istore (lv' := [(6, .int (nI (S 5 o1))), (5, .int (nI (S 5 x1))), (4, .int (nI (S 9 2))), (0, .ref (L 0 0)), (1, .int (nI x1)), (2, .int (nI o1)), (3, .int (nI f))]) hx hb dL_isArgued_22 hl (by decide) rfl (fun ls hl => ?_)
  refine lv_aload_n hx hb dL_isArgued_24 rfl (lv_at hl 3 rfl) ?_
  refine lv_iload_n hx hb dL_isArgued_25 rfl (lv_at hl 4 rfl) ?_
  refine lv_iconst (v := nI 4) hx hb dL_isArgued_26 (by decide) ?_
  refine vp_callSi (W.runV (As := [.int (nI x1), .int (nI 4)]) (rest := []) ⟨hx, hb, hml, hown, hts⟩ (k_X3_editor l D y L S Bs pi kn Gs sv U Bs Gs (nI x1) (nI 4) hI.1) (cwV 2 hts gL_isArgued_X3_editor rfl rfl rfl hd_X3_editor ⟨Nat.le_of_ble_eq_true rfl, Nat.le_of_ble_eq_true rfl⟩) ⟨pm_ro_blind, va_recv hK hP (ci := 3) (q0 := 0) rfl rfl, pm_ro_pre hP hK⟩ rfl rfl hl.1 rfl (lv_room (Nat.le_of_ble_eq_true rfl)) dL_isArgued_27 ⟨Nat.le_of_ble_eq_true rfl, Nat.le_of_ble_eq_true rfl⟩) (fun r7 h8 => ?_)
  obtain rfl : r7 = nI (S 6 x1) := h8.trans (pq_ed4 (by omega))
  refine lv_istore (lv' := [(7, .int (nI (S 6 x1))), (6, .int (nI (S 5 o1))), (5, .int (nI (S 5 x1))), (4, .int (nI (S 9 2))), (0, .ref (L 0 0)), (1, .int (nI x1)), (2, .int (nI o1)), (3, .int (nI f))]) hx hb dL_isArgued_30 hl (by decide) rfl (fun ls hl => ?_)
  refine lv_aload_n hx hb dL_isArgued_32 rfl (lv_at hl 4 rfl) ?_
  refine lv_iload_n hx hb dL_isArgued_33 rfl (lv_at hl 6 rfl) ?_
  refine lv_iconst (v := nI 5) hx hb dL_isArgued_34 (by decide) ?_
  refine vp_callSi (W.runV (As := [.int (nI o1), .int (nI 5)]) (rest := []) ⟨hx, hb, hml, hown, hts⟩ (k_X3_editor l D y L S Bs pi kn Gs sv U Bs Gs (nI o1) (nI 5) hI.1) (cwV 2 hts gL_isArgued_X3_editor rfl rfl rfl hd_X3_editor ⟨Nat.le_of_ble_eq_true rfl, Nat.le_of_ble_eq_true rfl⟩) ⟨pm_ro_blind, va_recv hK hP (ci := 3) (q0 := 0) rfl rfl, pm_ro_pre hP hK⟩ rfl rfl hl.1 rfl (lv_room (Nat.le_of_ble_eq_true rfl)) dL_isArgued_35 ⟨Nat.le_of_ble_eq_true rfl, Nat.le_of_ble_eq_true rfl⟩) (fun r9 h10 => ?_)
  obtain rfl : r9 = nI (S 7 o1) := h10.trans (pq_ed5 (by omega))
  refine lv_istore (lv' := [(8, .int (nI (S 7 o1))), (7, .int (nI (S 6 x1))), (6, .int (nI (S 5 o1))), (5, .int (nI (S 5 x1))), (4, .int (nI (S 9 2))), (0, .ref (L 0 0)), (1, .int (nI x1)), (2, .int (nI o1)), (3, .int (nI f))]) hx hb dL_isArgued_38 hl (by decide) rfl (fun ls hl => ?_)
  refine lv_aload_n hx hb dL_isArgued_40 rfl (lv_at hl 5 rfl) ?_
  refine lv_iload_n hx hb dL_isArgued_41 rfl (lv_at hl 7 rfl) ?_
  refine lv_iload_n hx hb dL_isArgued_42 rfl (lv_at hl 8 rfl) ?_
  refine vp_callSi (W.runS (As := [.ref (L 0 0), .int (nI o1), .int (nI f)]) (rest := []) ⟨hx, hb, hml, hown, hts⟩ (k_L_mark l D y L S Bs pi kn Gs sv U o1 f hI (by omega) (by omega)) (va_cwS 3 hts gL_isArgued_L_mark rfl rfl rfl hd_L_mark ⟨Nat.le_of_ble_eq_true rfl, Nat.le_of_ble_eq_true rfl⟩) ⟨pm_ro_blind, pm_ro_pre hP hK⟩ rfl rfl hl.1 rfl (lv_room (Nat.le_of_ble_eq_true rfl)) dL_isArgued_43 ⟨Nat.le_of_ble_eq_true rfl, Nat.le_of_ble_eq_true rfl⟩) (fun r11 h12 => ?_)
  obtain rfl : r11 = nI (pm_mk (S 4 f) o1) := h12
  have := pm_mk3 (hI.1.okm f (by omega)) (show o1 < 3 by omega)
  refine lv_istore (lv' := [(9, .int (nI (pm_mk (S 4 f) o1))), (8, .int (nI (S 7 o1))), (7, .int (nI (S 6 x1))), (6, .int (nI (S 5 o1))), (5, .int (nI (S 5 x1))), (4, .int (nI (S 9 2))), (0, .ref (L 0 0)), (1, .int (nI x1)), (2, .int (nI o1)), (3, .int (nI f))]) hx hb dL_isArgued_46 hl (by decide) rfl (fun ls hl => ?_)
  refine lv_aload_n hx hb dL_isArgued_48 rfl (lv_at hl 6 rfl) ?_
  refine lv_iload_n hx hb dL_isArgued_49 rfl (lv_at hl 7 rfl) ?_
  refine lv_iload_n hx hb dL_isArgued_50 rfl (lv_at hl 8 rfl) ?_
  refine lv_iload_n hx hb dL_isArgued_51 rfl (lv_at hl 9 rfl) ?_
  rcases pq_arg hI he ho hf with ⟨hxo, E⟩ | ⟨hxo, hno, E⟩ | ⟨hxo, hm2, hp1, hp2, T, E, t5, t5o, t4, t6, t7⟩ | ⟨hxo, hm2, hp1, hp2, T, E, t5, t5o, t4, t6, t7⟩
  · skip
    refine va_calli (va_runV (As := [.int (nI x1), .int (nI o1), .int (nI f)]) (rest := []) ⟨hx, hb, hml, hown, hts⟩ (k_X3_argue l D y L S Bs pi kn Gs sv U (fun i => Bs (pi i)) Gs (nI x1) (nI o1) (nI f) (pq_CI hC) hI.1) (cwV 3 hts gL_isArgued_X3_argue rfl rfl rfl hd_X3_argue ⟨Nat.le_of_ble_eq_true rfl, Nat.le_of_ble_eq_true rfl⟩) ⟨pm_wr_blind, va_recv hK hP (ci := 3) (q0 := 0) rfl rfl, pm_wr_pre hP hK hD⟩ rfl rfl hl.1 rfl (lv_room (Nat.le_of_ble_eq_true rfl)) dL_isArgued_52 ⟨Nat.le_of_ble_eq_true rfl, Nat.le_of_ble_eq_true rfl⟩) hS (fun q _ h9 => pm_ad_all hD q h9) (pm_ad_all hD) (fun r13 u18 t14 H1 locs ht15 _ h19 hB16 _ hk17 hS => ?_)
    have hB16 : va_P D vwCl (pm_cl y L S (pm_ub Bs (pi kn) S) (pm_rp pi kn (-2)) (pm_rk kn (-2)) Gs sv U) H1 := by have h8 : va_P D vwCl (pm_cl y L (pm_aArgue S (nI x1) (nI o1) (nI f)).2 (pm_ub Bs (pi kn) S) (pm_rp pi kn (pm_aArgue S (nI x1) (nI o1) (nI f)).1) (pm_rk kn (pm_aArgue S (nI x1) (nI o1) (nI f)).1) Gs sv U) t14.heap := hB16; rw [E] at h8; rw [← ht15]; exact h8
    obtain rfl : r13 = -2 := h19.trans (by rw [E])
    obtain ⟨hP, hD⟩ := pm_all (D := D) (cl := vwCl) (H1 := H1) hD (w' := pm_cl y L S (pm_ub Bs (pi kn) S) (pm_rp pi kn (-2)) (pm_rk kn (-2)) Gs sv U) hB16 (pm_cl_fst ..)
    have hC20 := pq_C_r hC (-2)
    generalize pm_ub Bs (pi kn) S = Bs21 at hP hD
    generalize pm_rp pi kn (-2) = pi22 at hP hD hC20
    generalize pm_rk kn (-2) = kn23 at hP hD hC20
    generalize H1 = H at hP hS ⊢
    have hP : va_P D vwCl (pm_cl y L S Bs21 pi22 kn23 Gs sv U) H := hP
    have hD : va_D (pm_ad (pm_cl y L S Bs pi kn Gs sv U)) (pm_cl y L S Bs21 pi22 kn23 Gs sv U) := hD
    refine lv_istore (lv' := [(10, .int (-2)), (9, .int (nI (pm_mk (S 4 f) o1))), (8, .int (nI (S 7 o1))), (7, .int (nI (S 6 x1))), (6, .int (nI (S 5 o1))), (5, .int (nI (S 5 x1))), (4, .int (nI (S 9 2))), (0, .ref (L 0 0)), (1, .int (nI x1)), (2, .int (nI o1)), (3, .int (nI f))]) hx hb dL_isArgued_55 hl (by decide) rfl (fun ls hl => ?_)
    refine lv_iload_n hx hb dL_isArgued_57 rfl (lv_at hl 8 rfl) ?_
    refine lv_iload_n hx hb dL_isArgued_58 rfl (lv_at hl 9 rfl) ?_
    refine kx_icmp_ne (tgt := 75) hx hb (by omega) (by omega) dL_isArgued_59 (by decide) (fun c24 => by exfalso; omega) (fun c24 => ?_)
    refine lv_iload hx hb dL_isArgued_62 (lv_at hl 0 rfl) ?_
    refine lv_bipush (v := (-2)) hx hb dL_isArgued_64 (by decide) ?_
    refine lv_icmp_ne (tgt := 73) hx hb dL_isArgued_66 (by decide) (fun c25 => (c25 (by decide)).elim) (fun _ => ?_)
    refine lv_iconst (v := nI 1) hx hb dL_isArgued_69 (by decide) ?_
    refine lv_goto (tgt := 74) hx hb dL_isArgued_70 (by decide) ?_
    exact W.zret (ty := .boolean) hx hb hr rfl (fun t ht _ => ⟨⟨_, (S, Bs21, pi22, kn23), rfl, ⟨rfl, hI, hC20⟩, (by show va_P D vwCl (pm_cl y L S Bs21 pi22 kn23 Gs sv U) t.heap; rw [ht]; exact hP)⟩, hS.F ht⟩) hS.2.2 dL_isArgued_74
  · skip
    refine va_calli (va_runV (As := [.int (nI x1), .int (nI o1), .int (nI f)]) (rest := []) ⟨hx, hb, hml, hown, hts⟩ (k_X3_argue l D y L S Bs pi kn Gs sv U (fun i => Bs (pi i)) Gs (nI x1) (nI o1) (nI f) (pq_CI hC) hI.1) (cwV 3 hts gL_isArgued_X3_argue rfl rfl rfl hd_X3_argue ⟨Nat.le_of_ble_eq_true rfl, Nat.le_of_ble_eq_true rfl⟩) ⟨pm_wr_blind, va_recv hK hP (ci := 3) (q0 := 0) rfl rfl, pm_wr_pre hP hK hD⟩ rfl rfl hl.1 rfl (lv_room (Nat.le_of_ble_eq_true rfl)) dL_isArgued_52 ⟨Nat.le_of_ble_eq_true rfl, Nat.le_of_ble_eq_true rfl⟩) hS (fun q _ h9 => pm_ad_all hD q h9) (pm_ad_all hD) (fun r26 u31 t27 H1 locs ht28 _ h32 hB29 _ hk30 hS => ?_)
    have hB29 : va_P D vwCl (pm_cl y L S (pm_ub Bs (pi kn) S) (pm_rp pi kn (-5)) (pm_rk kn (-5)) Gs sv U) H1 := by have h8 : va_P D vwCl (pm_cl y L (pm_aArgue S (nI x1) (nI o1) (nI f)).2 (pm_ub Bs (pi kn) S) (pm_rp pi kn (pm_aArgue S (nI x1) (nI o1) (nI f)).1) (pm_rk kn (pm_aArgue S (nI x1) (nI o1) (nI f)).1) Gs sv U) t27.heap := hB29; rw [E] at h8; rw [← ht28]; exact h8
    obtain rfl : r26 = -5 := h32.trans (by rw [E])
    obtain ⟨hP, hD⟩ := pm_all (D := D) (cl := vwCl) (H1 := H1) hD (w' := pm_cl y L S (pm_ub Bs (pi kn) S) (pm_rp pi kn (-5)) (pm_rk kn (-5)) Gs sv U) hB29 (pm_cl_fst ..)
    have hC33 := pq_C_r hC (-5)
    generalize pm_ub Bs (pi kn) S = Bs34 at hP hD
    generalize pm_rp pi kn (-5) = pi35 at hP hD hC33
    generalize pm_rk kn (-5) = kn36 at hP hD hC33
    generalize H1 = H at hP hS ⊢
    have hP : va_P D vwCl (pm_cl y L S Bs34 pi35 kn36 Gs sv U) H := hP
    have hD : va_D (pm_ad (pm_cl y L S Bs pi kn Gs sv U)) (pm_cl y L S Bs34 pi35 kn36 Gs sv U) := hD
    refine lv_istore (lv' := [(10, .int (-5)), (9, .int (nI (pm_mk (S 4 f) o1))), (8, .int (nI (S 7 o1))), (7, .int (nI (S 6 x1))), (6, .int (nI (S 5 o1))), (5, .int (nI (S 5 x1))), (4, .int (nI (S 9 2))), (0, .ref (L 0 0)), (1, .int (nI x1)), (2, .int (nI o1)), (3, .int (nI f))]) hx hb dL_isArgued_55 hl (by decide) rfl (fun ls hl => ?_)
    refine lv_iload_n hx hb dL_isArgued_57 rfl (lv_at hl 8 rfl) ?_
    refine lv_iload_n hx hb dL_isArgued_58 rfl (lv_at hl 9 rfl) ?_
    refine kx_icmp_ne (tgt := 75) hx hb (by omega) (by omega) dL_isArgued_59 (by decide) (fun c37 => ?_) (fun c37 => by exfalso; omega)
    refine lv_iload hx hb dL_isArgued_75 (lv_at hl 1 rfl) ?_
    refine lv_iconst (v := nI 2) hx hb dL_isArgued_77 (by decide) ?_
    refine kx_icmp_ne (tgt := 88) hx hb (by omega) (by decide) dL_isArgued_78 (by decide) (fun c38 => ?_) (fun c38 => ?_)
    · skip
      refine lv_iload hx hb dL_isArgued_88 (lv_at hl 0 rfl) ?_
      refine lv_bipush (v := (-5)) hx hb dL_isArgued_90 (by decide) ?_
      refine lv_icmp_ne (tgt := 121) hx hb dL_isArgued_92 (by decide) (fun c39 => (c39 (by decide)).elim) (fun _ => ?_)
      refine lv_aload_n hx hb dL_isArgued_95 rfl (lv_at hl 7 rfl) ?_
      refine lv_iload_n hx hb dL_isArgued_96 rfl (lv_at hl 8 rfl) ?_
      refine lv_iconst (v := nI 0) hx hb dL_isArgued_97 (by decide) ?_
      refine vp_callSi (W.runV (As := [.int (nI x1), .int (nI 0)]) (rest := []) ⟨hx, hb, hml, hown, hts⟩ (k_X3_editor l D y L S Bs34 pi35 kn36 Gs sv U Bs Gs (nI x1) (nI 0) hI.1) (cwV 2 hts gL_isArgued_X3_editor rfl rfl rfl hd_X3_editor ⟨Nat.le_of_ble_eq_true rfl, Nat.le_of_ble_eq_true rfl⟩) ⟨pm_ro_blind, va_recv hK hP (ci := 3) (q0 := 0) rfl rfl, pm_ro_pre hP hK⟩ rfl rfl hl.1 rfl (lv_room (Nat.le_of_ble_eq_true rfl)) dL_isArgued_98 ⟨Nat.le_of_ble_eq_true rfl, Nat.le_of_ble_eq_true rfl⟩) (fun r40 h41 => ?_)
      obtain rfl : r40 = nI (S 5 x1) := h41.trans (pq_ed0 (by omega))
      have := hI.1.pts x1 (by omega)
      refine lv_iload hx hb dL_isArgued_101 (lv_at hl 5 rfl) ?_
      refine kx_icmp_ne (tgt := 121) hx hb (by omega) (by omega) dL_isArgued_103 (by decide) (fun c42 => by exfalso; omega) (fun c42 => ?_)
      refine lv_aload_n hx hb dL_isArgued_106 rfl (lv_at hl 7 rfl) ?_
      refine lv_iload_n hx hb dL_isArgued_107 rfl (lv_at hl 8 rfl) ?_
      refine lv_iconst (v := nI 4) hx hb dL_isArgued_108 (by decide) ?_
      refine vp_callSi (W.runV (As := [.int (nI x1), .int (nI 4)]) (rest := []) ⟨hx, hb, hml, hown, hts⟩ (k_X3_editor l D y L S Bs34 pi35 kn36 Gs sv U Bs Gs (nI x1) (nI 4) hI.1) (cwV 2 hts gL_isArgued_X3_editor rfl rfl rfl hd_X3_editor ⟨Nat.le_of_ble_eq_true rfl, Nat.le_of_ble_eq_true rfl⟩) ⟨pm_ro_blind, va_recv hK hP (ci := 3) (q0 := 0) rfl rfl, pm_ro_pre hP hK⟩ rfl rfl hl.1 rfl (lv_room (Nat.le_of_ble_eq_true rfl)) dL_isArgued_109 ⟨Nat.le_of_ble_eq_true rfl, Nat.le_of_ble_eq_true rfl⟩) (fun r43 h44 => ?_)
      obtain rfl : r43 = nI (S 6 x1) := h44.trans (pq_ed4 (by omega))
      refine lv_iload hx hb dL_isArgued_112 (lv_at hl 3 rfl) ?_
      refine lv_icmp_ne (tgt := 121) hx hb dL_isArgued_114 (by decide) (fun c45 => by exfalso; exact c45 rfl) (fun c45 => ?_)
      refine lv_iconst (v := nI 1) hx hb dL_isArgued_117 (by decide) ?_
      refine lv_goto (tgt := 122) hx hb dL_isArgued_118 (by decide) ?_
      exact W.zret (ty := .boolean) hx hb hr rfl (fun t ht _ => ⟨⟨_, (S, Bs34, pi35, kn36), rfl, ⟨rfl, hI, hC33⟩, (by show va_P D vwCl (pm_cl y L S Bs34 pi35 kn36 Gs sv U) t.heap; rw [ht]; exact hP)⟩, hS.F ht⟩) hS.2.2 dL_isArgued_122
    · skip
      refine lv_iload hx hb dL_isArgued_81 (lv_at hl 5 rfl) ?_
      refine lv_iload hx hb dL_isArgued_83 (lv_at hl 6 rfl) ?_
      refine kx_icmp_ge (tgt := 123) hx hb (by omega) (by omega) dL_isArgued_85 (by decide) (fun c46 => by exfalso; omega) (fun c46 => ?_)
      refine lv_iload hx hb dL_isArgued_88 (lv_at hl 0 rfl) ?_
      refine lv_bipush (v := (-5)) hx hb dL_isArgued_90 (by decide) ?_
      refine lv_icmp_ne (tgt := 121) hx hb dL_isArgued_92 (by decide) (fun c47 => (c47 (by decide)).elim) (fun _ => ?_)
      refine lv_aload_n hx hb dL_isArgued_95 rfl (lv_at hl 7 rfl) ?_
      refine lv_iload_n hx hb dL_isArgued_96 rfl (lv_at hl 8 rfl) ?_
      refine lv_iconst (v := nI 0) hx hb dL_isArgued_97 (by decide) ?_
      refine vp_callSi (W.runV (As := [.int (nI x1), .int (nI 0)]) (rest := []) ⟨hx, hb, hml, hown, hts⟩ (k_X3_editor l D y L S Bs34 pi35 kn36 Gs sv U Bs Gs (nI x1) (nI 0) hI.1) (cwV 2 hts gL_isArgued_X3_editor rfl rfl rfl hd_X3_editor ⟨Nat.le_of_ble_eq_true rfl, Nat.le_of_ble_eq_true rfl⟩) ⟨pm_ro_blind, va_recv hK hP (ci := 3) (q0 := 0) rfl rfl, pm_ro_pre hP hK⟩ rfl rfl hl.1 rfl (lv_room (Nat.le_of_ble_eq_true rfl)) dL_isArgued_98 ⟨Nat.le_of_ble_eq_true rfl, Nat.le_of_ble_eq_true rfl⟩) (fun r48 h49 => ?_)
      obtain rfl : r48 = nI (S 5 x1) := h49.trans (pq_ed0 (by omega))
      have := hI.1.pts x1 (by omega)
      refine lv_iload hx hb dL_isArgued_101 (lv_at hl 5 rfl) ?_
      refine kx_icmp_ne (tgt := 121) hx hb (by omega) (by omega) dL_isArgued_103 (by decide) (fun c50 => by exfalso; omega) (fun c50 => ?_)
      refine lv_aload_n hx hb dL_isArgued_106 rfl (lv_at hl 7 rfl) ?_
      refine lv_iload_n hx hb dL_isArgued_107 rfl (lv_at hl 8 rfl) ?_
      refine lv_iconst (v := nI 4) hx hb dL_isArgued_108 (by decide) ?_
      refine vp_callSi (W.runV (As := [.int (nI x1), .int (nI 4)]) (rest := []) ⟨hx, hb, hml, hown, hts⟩ (k_X3_editor l D y L S Bs34 pi35 kn36 Gs sv U Bs Gs (nI x1) (nI 4) hI.1) (cwV 2 hts gL_isArgued_X3_editor rfl rfl rfl hd_X3_editor ⟨Nat.le_of_ble_eq_true rfl, Nat.le_of_ble_eq_true rfl⟩) ⟨pm_ro_blind, va_recv hK hP (ci := 3) (q0 := 0) rfl rfl, pm_ro_pre hP hK⟩ rfl rfl hl.1 rfl (lv_room (Nat.le_of_ble_eq_true rfl)) dL_isArgued_109 ⟨Nat.le_of_ble_eq_true rfl, Nat.le_of_ble_eq_true rfl⟩) (fun r51 h52 => ?_)
      obtain rfl : r51 = nI (S 6 x1) := h52.trans (pq_ed4 (by omega))
      refine lv_iload hx hb dL_isArgued_112 (lv_at hl 3 rfl) ?_
      refine lv_icmp_ne (tgt := 121) hx hb dL_isArgued_114 (by decide) (fun c53 => by exfalso; exact c53 rfl) (fun c53 => ?_)
      refine lv_iconst (v := nI 1) hx hb dL_isArgued_117 (by decide) ?_
      refine lv_goto (tgt := 122) hx hb dL_isArgued_118 (by decide) ?_
      exact W.zret (ty := .boolean) hx hb hr rfl (fun t ht _ => ⟨⟨_, (S, Bs34, pi35, kn36), rfl, ⟨rfl, hI, hC33⟩, (by show va_P D vwCl (pm_cl y L S Bs34 pi35 kn36 Gs sv U) t.heap; rw [ht]; exact hP)⟩, hS.F ht⟩) hS.2.2 dL_isArgued_122
  · have hIT : pq_I T := by have h8 := pq_argue hI (nI x1) (nI o1) (nI f); rw [E] at h8; exact h8
    refine va_calli (va_runV (As := [.int (nI x1), .int (nI o1), .int (nI f)]) (rest := []) ⟨hx, hb, hml, hown, hts⟩ (k_X3_argue l D y L S Bs pi kn Gs sv U (fun i => Bs (pi i)) Gs (nI x1) (nI o1) (nI f) (pq_CI hC) hI.1) (cwV 3 hts gL_isArgued_X3_argue rfl rfl rfl hd_X3_argue ⟨Nat.le_of_ble_eq_true rfl, Nat.le_of_ble_eq_true rfl⟩) ⟨pm_wr_blind, va_recv hK hP (ci := 3) (q0 := 0) rfl rfl, pm_wr_pre hP hK hD⟩ rfl rfl hl.1 rfl (lv_room (Nat.le_of_ble_eq_true rfl)) dL_isArgued_52 ⟨Nat.le_of_ble_eq_true rfl, Nat.le_of_ble_eq_true rfl⟩) hS (fun q _ h9 => pm_ad_all hD q h9) (pm_ad_all hD) (fun r54 u59 t55 H1 locs ht56 _ h60 hB57 _ hk58 hS => ?_)
    have hB57 : va_P D vwCl (pm_cl y L T (pm_ub Bs (pi kn) S) (pm_rp pi kn (nI 0)) (pm_rk kn (nI 0)) Gs sv U) H1 := by have h8 : va_P D vwCl (pm_cl y L (pm_aArgue S (nI x1) (nI o1) (nI f)).2 (pm_ub Bs (pi kn) S) (pm_rp pi kn (pm_aArgue S (nI x1) (nI o1) (nI f)).1) (pm_rk kn (pm_aArgue S (nI x1) (nI o1) (nI f)).1) Gs sv U) t55.heap := hB57; rw [E] at h8; rw [← ht56]; exact h8
    obtain rfl : r54 = nI 0 := h60.trans (by rw [E])
    obtain ⟨hP, hD⟩ := pm_all (D := D) (cl := vwCl) (H1 := H1) hD (w' := pm_cl y L T (pm_ub Bs (pi kn) S) (pm_rp pi kn (nI 0)) (pm_rk kn (nI 0)) Gs sv U) hB57 (pm_cl_fst ..)
    have hC61 := pq_C_r hC (nI 0)
    generalize pm_ub Bs (pi kn) S = Bs62 at hP hD
    generalize pm_rp pi kn (nI 0) = pi63 at hP hD hC61
    generalize pm_rk kn (nI 0) = kn64 at hP hD hC61
    generalize H1 = H at hP hS ⊢
    have hP : va_P D vwCl (pm_cl y L T Bs62 pi63 kn64 Gs sv U) H := hP
    have hD : va_D (pm_ad (pm_cl y L S Bs pi kn Gs sv U)) (pm_cl y L T Bs62 pi63 kn64 Gs sv U) := hD
    refine lv_istore (lv' := [(10, .int (nI 0)), (9, .int (nI (pm_mk (S 4 f) o1))), (8, .int (nI (S 7 o1))), (7, .int (nI (S 6 x1))), (6, .int (nI (S 5 o1))), (5, .int (nI (S 5 x1))), (4, .int (nI (S 9 2))), (0, .ref (L 0 0)), (1, .int (nI x1)), (2, .int (nI o1)), (3, .int (nI f))]) hx hb dL_isArgued_55 hl (by decide) rfl (fun ls hl => ?_)
    refine lv_iload_n hx hb dL_isArgued_57 rfl (lv_at hl 8 rfl) ?_
    refine lv_iload_n hx hb dL_isArgued_58 rfl (lv_at hl 9 rfl) ?_
    refine kx_icmp_ne (tgt := 75) hx hb (by omega) (by omega) dL_isArgued_59 (by decide) (fun c65 => ?_) (fun c65 => by exfalso; omega)
    refine lv_iload hx hb dL_isArgued_75 (lv_at hl 1 rfl) ?_
    refine lv_iconst (v := nI 2) hx hb dL_isArgued_77 (by decide) ?_
    refine kx_icmp_ne (tgt := 88) hx hb (by omega) (by decide) dL_isArgued_78 (by decide) (fun c66 => by exfalso; omega) (fun c66 => ?_)
    refine lv_iload hx hb dL_isArgued_81 (lv_at hl 5 rfl) ?_
    refine lv_iload hx hb dL_isArgued_83 (lv_at hl 6 rfl) ?_
    refine kx_icmp_ge (tgt := 123) hx hb (by omega) (by omega) dL_isArgued_85 (by decide) (fun c67 => ?_) (fun c67 => by exfalso; omega)
    refine lv_iload hx hb dL_isArgued_123 (lv_at hl 4 rfl) ?_
    refine lv_iload hx hb dL_isArgued_125 (lv_at hl 6 rfl) ?_
    refine kx_icmp_ge (tgt := 134) hx hb (by omega) (by omega) dL_isArgued_127 (by decide) (fun c68 => ?_) (fun c68 => by exfalso; omega)
    refine lv_iconst (v := nI 0) hx hb dL_isArgued_134 (by decide) ?_
    refine lv_istore (lv' := [(11, .int (nI 0)), (10, .int (nI 0)), (9, .int (nI (pm_mk (S 4 f) o1))), (8, .int (nI (S 7 o1))), (7, .int (nI (S 6 x1))), (6, .int (nI (S 5 o1))), (5, .int (nI (S 5 x1))), (4, .int (nI (S 9 2))), (0, .ref (L 0 0)), (1, .int (nI x1)), (2, .int (nI o1)), (3, .int (nI f))]) hx hb dL_isArgued_135 hl (by decide) rfl (fun ls hl => ?_)
    refine lv_iload hx hb dL_isArgued_137 (lv_at hl 1 rfl) ?_
    refine lv_iload hx hb dL_isArgued_139 (lv_at hl 0 rfl) ?_
    refine lv_if_eq (tgt := 148) hx hb dL_isArgued_141 (by decide) (fun _ => ?_) (fun c69 => (c69 (by decide)).elim)
    refine lv_iconst (v := nI 0) hx hb dL_isArgued_148 (by decide) ?_
    refine lv_icmp_ne (tgt := 240) hx hb dL_isArgued_149 (by decide) (fun c70 => (c70 (by decide)).elim) (fun _ => ?_)
    refine lv_aload_n hx hb dL_isArgued_152 rfl (lv_at hl 8 rfl) ?_
    refine lv_iload_n hx hb dL_isArgued_153 rfl (lv_at hl 9 rfl) ?_
    refine lv_iconst (v := nI 0) hx hb dL_isArgued_154 (by decide) ?_
    refine vp_callSi (W.runV (As := [.int (nI x1), .int (nI 0)]) (rest := []) ⟨hx, hb, hml, hown, hts⟩ (k_X3_editor l D y L T Bs62 pi63 kn64 Gs sv U Bs Gs (nI x1) (nI 0) hIT.1) (cwV 2 hts gL_isArgued_X3_editor rfl rfl rfl hd_X3_editor ⟨Nat.le_of_ble_eq_true rfl, Nat.le_of_ble_eq_true rfl⟩) ⟨pm_ro_blind, va_recv hK hP (ci := 3) (q0 := 0) rfl rfl, pm_ro_pre hP hK⟩ rfl rfl hl.1 rfl (lv_room (Nat.le_of_ble_eq_true rfl)) dL_isArgued_155 ⟨Nat.le_of_ble_eq_true rfl, Nat.le_of_ble_eq_true rfl⟩) (fun r71 h72 => ?_)
    obtain rfl : r71 = nI (T 5 x1) := h72.trans (pq_ed0 (by omega))
    have := hIT.1.pts x1 (by omega)
    refine lv_iload hx hb dL_isArgued_158 (lv_at hl 6 rfl) ?_
    refine lv_iload hx hb dL_isArgued_160 (lv_at hl 7 rfl) ?_
    refine kx_isub hx hb (by omega) dL_isArgued_162 ?_
    refine kx_icmp_ne (tgt := 240) hx hb (by omega) (by omega) dL_isArgued_163 (by decide) (fun c73 => by exfalso; omega) (fun c73 => ?_)
    refine lv_aload_n hx hb dL_isArgued_166 rfl (lv_at hl 8 rfl) ?_
    refine lv_iload_n hx hb dL_isArgued_167 rfl (lv_at hl 10 rfl) ?_
    refine lv_iconst (v := nI 0) hx hb dL_isArgued_168 (by decide) ?_
    refine vp_callSi (W.runV (As := [.int (nI o1), .int (nI 0)]) (rest := []) ⟨hx, hb, hml, hown, hts⟩ (k_X3_editor l D y L T Bs62 pi63 kn64 Gs sv U Bs Gs (nI o1) (nI 0) hIT.1) (cwV 2 hts gL_isArgued_X3_editor rfl rfl rfl hd_X3_editor ⟨Nat.le_of_ble_eq_true rfl, Nat.le_of_ble_eq_true rfl⟩) ⟨pm_ro_blind, va_recv hK hP (ci := 3) (q0 := 0) rfl rfl, pm_ro_pre hP hK⟩ rfl rfl hl.1 rfl (lv_room (Nat.le_of_ble_eq_true rfl)) dL_isArgued_169 ⟨Nat.le_of_ble_eq_true rfl, Nat.le_of_ble_eq_true rfl⟩) (fun r74 h75 => ?_)
    obtain rfl : r74 = nI (T 5 o1) := h75.trans (pq_ed0 (by omega))
    have := hIT.1.pts o1 (by omega)
    refine lv_iload hx hb dL_isArgued_172 (lv_at hl 0 rfl) ?_
    refine lv_if_eq (tgt := 182) hx hb dL_isArgued_174 (by decide) (fun _ => ?_) (fun c76 => (c76 (by decide)).elim)
    refine lv_iload hx hb dL_isArgued_182 (lv_at hl 5 rfl) ?_
    refine lv_iload hx hb dL_isArgued_184 (lv_at hl 7 rfl) ?_
    refine kx_isub hx hb (by omega) dL_isArgued_186 ?_
    refine kx_icmp_ne (tgt := 240) hx hb (by omega) (by omega) dL_isArgued_187 (by decide) (fun c77 => by exfalso; omega) (fun c77 => ?_)
    refine lv_aload_n hx hb dL_isArgued_190 rfl (lv_at hl 8 rfl) ?_
    refine lv_iload_n hx hb dL_isArgued_191 rfl (lv_at hl 10 rfl) ?_
    refine lv_iload_n hx hb dL_isArgued_192 rfl (lv_at hl 11 rfl) ?_
    refine vp_callSi (W.runS (As := [.ref (L 0 0), .int (nI o1), .int (nI f)]) (rest := []) ⟨hx, hb, hml, hown, hts⟩ (k_L_mark l D y L T Bs62 pi63 kn64 Gs sv U o1 f hIT (by omega) (by omega)) (va_cwS 3 hts gL_isArgued_L_mark rfl rfl rfl hd_L_mark ⟨Nat.le_of_ble_eq_true rfl, Nat.le_of_ble_eq_true rfl⟩) ⟨pm_ro_blind, pm_ro_pre hP hK⟩ rfl rfl hl.1 rfl (lv_room (Nat.le_of_ble_eq_true rfl)) dL_isArgued_193 ⟨Nat.le_of_ble_eq_true rfl, Nat.le_of_ble_eq_true rfl⟩) (fun r78 h79 => ?_)
    obtain rfl : r78 = nI (pm_mk (T 4 f) o1) := h79
    have := pm_mk3 (hIT.1.okm f (by omega)) (show o1 < 3 by omega)
    refine lv_iload hx hb dL_isArgued_196 (lv_at hl 0 rfl) ?_
    refine lv_if_eq (tgt := 205) hx hb dL_isArgued_198 (by decide) (fun _ => ?_) (fun c80 => (c80 (by decide)).elim)
    refine lv_iconst (v := nI 2) hx hb dL_isArgued_205 (by decide) ?_
    refine kx_icmp_ne (tgt := 240) hx hb (by omega) (by decide) dL_isArgued_206 (by decide) (fun c81 => by exfalso; omega) (fun c81 => ?_)
    refine lv_aload_n hx hb dL_isArgued_209 rfl (lv_at hl 8 rfl) ?_
    refine lv_iload_n hx hb dL_isArgued_210 rfl (lv_at hl 9 rfl) ?_
    refine lv_iconst (v := nI 4) hx hb dL_isArgued_211 (by decide) ?_
    refine vp_callSi (W.runV (As := [.int (nI x1), .int (nI 4)]) (rest := []) ⟨hx, hb, hml, hown, hts⟩ (k_X3_editor l D y L T Bs62 pi63 kn64 Gs sv U Bs Gs (nI x1) (nI 4) hIT.1) (cwV 2 hts gL_isArgued_X3_editor rfl rfl rfl hd_X3_editor ⟨Nat.le_of_ble_eq_true rfl, Nat.le_of_ble_eq_true rfl⟩) ⟨pm_ro_blind, va_recv hK hP (ci := 3) (q0 := 0) rfl rfl, pm_ro_pre hP hK⟩ rfl rfl hl.1 rfl (lv_room (Nat.le_of_ble_eq_true rfl)) dL_isArgued_212 ⟨Nat.le_of_ble_eq_true rfl, Nat.le_of_ble_eq_true rfl⟩) (fun r82 h83 => ?_)
    obtain rfl : r82 = nI (T 6 x1) := h83.trans (pq_ed4 (by omega))
    refine lv_iload hx hb dL_isArgued_215 (lv_at hl 4 rfl) ?_
    refine lv_iconst (v := nI 1) hx hb dL_isArgued_217 (by decide) ?_
    refine lv_iadd hx hb dL_isArgued_218 ?_
    refine lv_icmp_ne (tgt := 240) hx hb dL_isArgued_219 (by decide) (fun c84 => by exfalso; exact c84 (by rw [t6, ← nI_add])) (fun c84 => ?_)
    refine lv_aload_n hx hb dL_isArgued_222 rfl (lv_at hl 8 rfl) ?_
    refine lv_iload_n hx hb dL_isArgued_223 rfl (lv_at hl 10 rfl) ?_
    refine lv_iconst (v := nI 5) hx hb dL_isArgued_224 (by decide) ?_
    refine vp_callSi (W.runV (As := [.int (nI o1), .int (nI 5)]) (rest := []) ⟨hx, hb, hml, hown, hts⟩ (k_X3_editor l D y L T Bs62 pi63 kn64 Gs sv U Bs Gs (nI o1) (nI 5) hIT.1) (cwV 2 hts gL_isArgued_X3_editor rfl rfl rfl hd_X3_editor ⟨Nat.le_of_ble_eq_true rfl, Nat.le_of_ble_eq_true rfl⟩) ⟨pm_ro_blind, va_recv hK hP (ci := 3) (q0 := 0) rfl rfl, pm_ro_pre hP hK⟩ rfl rfl hl.1 rfl (lv_room (Nat.le_of_ble_eq_true rfl)) dL_isArgued_225 ⟨Nat.le_of_ble_eq_true rfl, Nat.le_of_ble_eq_true rfl⟩) (fun r85 h86 => ?_)
    obtain rfl : r85 = nI (T 7 o1) := h86.trans (pq_ed5 (by omega))
    refine lv_iload hx hb dL_isArgued_228 (lv_at hl 3 rfl) ?_
    refine lv_iload hx hb dL_isArgued_230 (lv_at hl 1 rfl) ?_
    refine lv_iadd hx hb dL_isArgued_232 ?_
    refine lv_icmp_ne (tgt := 240) hx hb dL_isArgued_233 (by decide) (fun c87 => by exfalso; exact c87 (by rw [t7, ← nI_add])) (fun c87 => ?_)
    refine lv_iconst (v := nI 1) hx hb dL_isArgued_236 (by decide) ?_
    refine lv_goto (tgt := 241) hx hb dL_isArgued_237 (by decide) ?_
    exact W.zret (ty := .boolean) hx hb hr rfl (fun t ht _ => ⟨⟨_, (T, Bs62, pi63, kn64), rfl, ⟨rfl, hIT, hC61⟩, (by show va_P D vwCl (pm_cl y L T Bs62 pi63 kn64 Gs sv U) t.heap; rw [ht]; exact hP)⟩, hS.F ht⟩) hS.2.2 dL_isArgued_241
  · have hIT : pq_I T := by have h8 := pq_argue hI (nI x1) (nI o1) (nI f); rw [E] at h8; exact h8
    refine va_calli (va_runV (As := [.int (nI x1), .int (nI o1), .int (nI f)]) (rest := []) ⟨hx, hb, hml, hown, hts⟩ (k_X3_argue l D y L S Bs pi kn Gs sv U (fun i => Bs (pi i)) Gs (nI x1) (nI o1) (nI f) (pq_CI hC) hI.1) (cwV 3 hts gL_isArgued_X3_argue rfl rfl rfl hd_X3_argue ⟨Nat.le_of_ble_eq_true rfl, Nat.le_of_ble_eq_true rfl⟩) ⟨pm_wr_blind, va_recv hK hP (ci := 3) (q0 := 0) rfl rfl, pm_wr_pre hP hK hD⟩ rfl rfl hl.1 rfl (lv_room (Nat.le_of_ble_eq_true rfl)) dL_isArgued_52 ⟨Nat.le_of_ble_eq_true rfl, Nat.le_of_ble_eq_true rfl⟩) hS (fun q _ h9 => pm_ad_all hD q h9) (pm_ad_all hD) (fun r88 u93 t89 H1 locs ht90 _ h94 hB91 _ hk92 hS => ?_)
    have hB91 : va_P D vwCl (pm_cl y L T (pm_ub Bs (pi kn) S) (pm_rp pi kn (nI 1)) (pm_rk kn (nI 1)) Gs sv U) H1 := by have h8 : va_P D vwCl (pm_cl y L (pm_aArgue S (nI x1) (nI o1) (nI f)).2 (pm_ub Bs (pi kn) S) (pm_rp pi kn (pm_aArgue S (nI x1) (nI o1) (nI f)).1) (pm_rk kn (pm_aArgue S (nI x1) (nI o1) (nI f)).1) Gs sv U) t89.heap := hB91; rw [E] at h8; rw [← ht90]; exact h8
    obtain rfl : r88 = nI 1 := h94.trans (by rw [E])
    obtain ⟨hP, hD⟩ := pm_all (D := D) (cl := vwCl) (H1 := H1) hD (w' := pm_cl y L T (pm_ub Bs (pi kn) S) (pm_rp pi kn (nI 1)) (pm_rk kn (nI 1)) Gs sv U) hB91 (pm_cl_fst ..)
    have hC95 := pq_C_r hC (nI 1)
    generalize pm_ub Bs (pi kn) S = Bs96 at hP hD
    generalize pm_rp pi kn (nI 1) = pi97 at hP hD hC95
    generalize pm_rk kn (nI 1) = kn98 at hP hD hC95
    generalize H1 = H at hP hS ⊢
    have hP : va_P D vwCl (pm_cl y L T Bs96 pi97 kn98 Gs sv U) H := hP
    have hD : va_D (pm_ad (pm_cl y L S Bs pi kn Gs sv U)) (pm_cl y L T Bs96 pi97 kn98 Gs sv U) := hD
    refine lv_istore (lv' := [(10, .int (nI 1)), (9, .int (nI (pm_mk (S 4 f) o1))), (8, .int (nI (S 7 o1))), (7, .int (nI (S 6 x1))), (6, .int (nI (S 5 o1))), (5, .int (nI (S 5 x1))), (4, .int (nI (S 9 2))), (0, .ref (L 0 0)), (1, .int (nI x1)), (2, .int (nI o1)), (3, .int (nI f))]) hx hb dL_isArgued_55 hl (by decide) rfl (fun ls hl => ?_)
    refine lv_iload_n hx hb dL_isArgued_57 rfl (lv_at hl 8 rfl) ?_
    refine lv_iload_n hx hb dL_isArgued_58 rfl (lv_at hl 9 rfl) ?_
    refine kx_icmp_ne (tgt := 75) hx hb (by omega) (by omega) dL_isArgued_59 (by decide) (fun c99 => ?_) (fun c99 => by exfalso; omega)
    refine lv_iload hx hb dL_isArgued_75 (lv_at hl 1 rfl) ?_
    refine lv_iconst (v := nI 2) hx hb dL_isArgued_77 (by decide) ?_
    refine kx_icmp_ne (tgt := 88) hx hb (by omega) (by decide) dL_isArgued_78 (by decide) (fun c100 => by exfalso; omega) (fun c100 => ?_)
    refine lv_iload hx hb dL_isArgued_81 (lv_at hl 5 rfl) ?_
    refine lv_iload hx hb dL_isArgued_83 (lv_at hl 6 rfl) ?_
    refine kx_icmp_ge (tgt := 123) hx hb (by omega) (by omega) dL_isArgued_85 (by decide) (fun c101 => ?_) (fun c101 => by exfalso; omega)
    refine lv_iload hx hb dL_isArgued_123 (lv_at hl 4 rfl) ?_
    refine lv_iload hx hb dL_isArgued_125 (lv_at hl 6 rfl) ?_
    refine kx_icmp_ge (tgt := 134) hx hb (by omega) (by omega) dL_isArgued_127 (by decide) (fun c102 => by exfalso; omega) (fun c102 => ?_)
    refine lv_iconst (v := nI 1) hx hb dL_isArgued_130 (by decide) ?_
    refine lv_goto (tgt := 135) hx hb dL_isArgued_131 (by decide) ?_
    refine lv_istore (lv' := [(11, .int (nI 1)), (10, .int (nI 1)), (9, .int (nI (pm_mk (S 4 f) o1))), (8, .int (nI (S 7 o1))), (7, .int (nI (S 6 x1))), (6, .int (nI (S 5 o1))), (5, .int (nI (S 5 x1))), (4, .int (nI (S 9 2))), (0, .ref (L 0 0)), (1, .int (nI x1)), (2, .int (nI o1)), (3, .int (nI f))]) hx hb dL_isArgued_135 hl (by decide) rfl (fun ls hl => ?_)
    refine lv_iload hx hb dL_isArgued_137 (lv_at hl 1 rfl) ?_
    refine lv_iload hx hb dL_isArgued_139 (lv_at hl 0 rfl) ?_
    refine lv_if_eq (tgt := 148) hx hb dL_isArgued_141 (by decide) (fun c103 => absurd c103 (by decide)) (fun _ => ?_)
    refine lv_iconst (v := nI 1) hx hb dL_isArgued_144 (by decide) ?_
    refine lv_goto (tgt := 149) hx hb dL_isArgued_145 (by decide) ?_
    refine lv_icmp_ne (tgt := 240) hx hb dL_isArgued_149 (by decide) (fun c104 => (c104 (by decide)).elim) (fun _ => ?_)
    refine lv_aload_n hx hb dL_isArgued_152 rfl (lv_at hl 8 rfl) ?_
    refine lv_iload_n hx hb dL_isArgued_153 rfl (lv_at hl 9 rfl) ?_
    refine lv_iconst (v := nI 0) hx hb dL_isArgued_154 (by decide) ?_
    refine vp_callSi (W.runV (As := [.int (nI x1), .int (nI 0)]) (rest := []) ⟨hx, hb, hml, hown, hts⟩ (k_X3_editor l D y L T Bs96 pi97 kn98 Gs sv U Bs Gs (nI x1) (nI 0) hIT.1) (cwV 2 hts gL_isArgued_X3_editor rfl rfl rfl hd_X3_editor ⟨Nat.le_of_ble_eq_true rfl, Nat.le_of_ble_eq_true rfl⟩) ⟨pm_ro_blind, va_recv hK hP (ci := 3) (q0 := 0) rfl rfl, pm_ro_pre hP hK⟩ rfl rfl hl.1 rfl (lv_room (Nat.le_of_ble_eq_true rfl)) dL_isArgued_155 ⟨Nat.le_of_ble_eq_true rfl, Nat.le_of_ble_eq_true rfl⟩) (fun r105 h106 => ?_)
    obtain rfl : r105 = nI (T 5 x1) := h106.trans (pq_ed0 (by omega))
    have := hIT.1.pts x1 (by omega)
    refine lv_iload hx hb dL_isArgued_158 (lv_at hl 6 rfl) ?_
    refine lv_iload hx hb dL_isArgued_160 (lv_at hl 7 rfl) ?_
    refine kx_isub hx hb (by omega) dL_isArgued_162 ?_
    refine kx_icmp_ne (tgt := 240) hx hb (by omega) (by omega) dL_isArgued_163 (by decide) (fun c107 => by exfalso; omega) (fun c107 => ?_)
    refine lv_aload_n hx hb dL_isArgued_166 rfl (lv_at hl 8 rfl) ?_
    refine lv_iload_n hx hb dL_isArgued_167 rfl (lv_at hl 10 rfl) ?_
    refine lv_iconst (v := nI 0) hx hb dL_isArgued_168 (by decide) ?_
    refine vp_callSi (W.runV (As := [.int (nI o1), .int (nI 0)]) (rest := []) ⟨hx, hb, hml, hown, hts⟩ (k_X3_editor l D y L T Bs96 pi97 kn98 Gs sv U Bs Gs (nI o1) (nI 0) hIT.1) (cwV 2 hts gL_isArgued_X3_editor rfl rfl rfl hd_X3_editor ⟨Nat.le_of_ble_eq_true rfl, Nat.le_of_ble_eq_true rfl⟩) ⟨pm_ro_blind, va_recv hK hP (ci := 3) (q0 := 0) rfl rfl, pm_ro_pre hP hK⟩ rfl rfl hl.1 rfl (lv_room (Nat.le_of_ble_eq_true rfl)) dL_isArgued_169 ⟨Nat.le_of_ble_eq_true rfl, Nat.le_of_ble_eq_true rfl⟩) (fun r108 h109 => ?_)
    obtain rfl : r108 = nI (T 5 o1) := h109.trans (pq_ed0 (by omega))
    have := hIT.1.pts o1 (by omega)
    refine lv_iload hx hb dL_isArgued_172 (lv_at hl 0 rfl) ?_
    refine lv_if_eq (tgt := 182) hx hb dL_isArgued_174 (by decide) (fun c110 => absurd c110 (by decide)) (fun _ => ?_)
    refine lv_iload hx hb dL_isArgued_177 (lv_at hl 5 rfl) ?_
    refine lv_goto (tgt := 187) hx hb dL_isArgued_179 (by decide) ?_
    refine kx_icmp_ne (tgt := 240) hx hb (by omega) (by omega) dL_isArgued_187 (by decide) (fun c111 => by exfalso; omega) (fun c111 => ?_)
    refine lv_aload_n hx hb dL_isArgued_190 rfl (lv_at hl 8 rfl) ?_
    refine lv_iload_n hx hb dL_isArgued_191 rfl (lv_at hl 10 rfl) ?_
    refine lv_iload_n hx hb dL_isArgued_192 rfl (lv_at hl 11 rfl) ?_
    refine vp_callSi (W.runS (As := [.ref (L 0 0), .int (nI o1), .int (nI f)]) (rest := []) ⟨hx, hb, hml, hown, hts⟩ (k_L_mark l D y L T Bs96 pi97 kn98 Gs sv U o1 f hIT (by omega) (by omega)) (va_cwS 3 hts gL_isArgued_L_mark rfl rfl rfl hd_L_mark ⟨Nat.le_of_ble_eq_true rfl, Nat.le_of_ble_eq_true rfl⟩) ⟨pm_ro_blind, pm_ro_pre hP hK⟩ rfl rfl hl.1 rfl (lv_room (Nat.le_of_ble_eq_true rfl)) dL_isArgued_193 ⟨Nat.le_of_ble_eq_true rfl, Nat.le_of_ble_eq_true rfl⟩) (fun r112 h113 => ?_)
    obtain rfl : r112 = nI (pm_mk (T 4 f) o1) := h113
    have := pm_mk3 (hIT.1.okm f (by omega)) (show o1 < 3 by omega)
    refine lv_iload hx hb dL_isArgued_196 (lv_at hl 0 rfl) ?_
    refine lv_if_eq (tgt := 205) hx hb dL_isArgued_198 (by decide) (fun c114 => absurd c114 (by decide)) (fun _ => ?_)
    refine lv_iconst (v := nI 0) hx hb dL_isArgued_201 (by decide) ?_
    refine lv_goto (tgt := 206) hx hb dL_isArgued_202 (by decide) ?_
    refine kx_icmp_ne (tgt := 240) hx hb (by omega) (by decide) dL_isArgued_206 (by decide) (fun c115 => by exfalso; omega) (fun c115 => ?_)
    refine lv_aload_n hx hb dL_isArgued_209 rfl (lv_at hl 8 rfl) ?_
    refine lv_iload_n hx hb dL_isArgued_210 rfl (lv_at hl 9 rfl) ?_
    refine lv_iconst (v := nI 4) hx hb dL_isArgued_211 (by decide) ?_
    refine vp_callSi (W.runV (As := [.int (nI x1), .int (nI 4)]) (rest := []) ⟨hx, hb, hml, hown, hts⟩ (k_X3_editor l D y L T Bs96 pi97 kn98 Gs sv U Bs Gs (nI x1) (nI 4) hIT.1) (cwV 2 hts gL_isArgued_X3_editor rfl rfl rfl hd_X3_editor ⟨Nat.le_of_ble_eq_true rfl, Nat.le_of_ble_eq_true rfl⟩) ⟨pm_ro_blind, va_recv hK hP (ci := 3) (q0 := 0) rfl rfl, pm_ro_pre hP hK⟩ rfl rfl hl.1 rfl (lv_room (Nat.le_of_ble_eq_true rfl)) dL_isArgued_212 ⟨Nat.le_of_ble_eq_true rfl, Nat.le_of_ble_eq_true rfl⟩) (fun r116 h117 => ?_)
    obtain rfl : r116 = nI (T 6 x1) := h117.trans (pq_ed4 (by omega))
    refine lv_iload hx hb dL_isArgued_215 (lv_at hl 4 rfl) ?_
    refine lv_iconst (v := nI 1) hx hb dL_isArgued_217 (by decide) ?_
    refine lv_iadd hx hb dL_isArgued_218 ?_
    refine lv_icmp_ne (tgt := 240) hx hb dL_isArgued_219 (by decide) (fun c118 => by exfalso; exact c118 (by rw [t6, ← nI_add])) (fun c118 => ?_)
    refine lv_aload_n hx hb dL_isArgued_222 rfl (lv_at hl 8 rfl) ?_
    refine lv_iload_n hx hb dL_isArgued_223 rfl (lv_at hl 10 rfl) ?_
    refine lv_iconst (v := nI 5) hx hb dL_isArgued_224 (by decide) ?_
    refine vp_callSi (W.runV (As := [.int (nI o1), .int (nI 5)]) (rest := []) ⟨hx, hb, hml, hown, hts⟩ (k_X3_editor l D y L T Bs96 pi97 kn98 Gs sv U Bs Gs (nI o1) (nI 5) hIT.1) (cwV 2 hts gL_isArgued_X3_editor rfl rfl rfl hd_X3_editor ⟨Nat.le_of_ble_eq_true rfl, Nat.le_of_ble_eq_true rfl⟩) ⟨pm_ro_blind, va_recv hK hP (ci := 3) (q0 := 0) rfl rfl, pm_ro_pre hP hK⟩ rfl rfl hl.1 rfl (lv_room (Nat.le_of_ble_eq_true rfl)) dL_isArgued_225 ⟨Nat.le_of_ble_eq_true rfl, Nat.le_of_ble_eq_true rfl⟩) (fun r119 h120 => ?_)
    obtain rfl : r119 = nI (T 7 o1) := h120.trans (pq_ed5 (by omega))
    refine lv_iload hx hb dL_isArgued_228 (lv_at hl 3 rfl) ?_
    refine lv_iload hx hb dL_isArgued_230 (lv_at hl 1 rfl) ?_
    refine lv_iadd hx hb dL_isArgued_232 ?_
    refine lv_icmp_ne (tgt := 240) hx hb dL_isArgued_233 (by decide) (fun c121 => by exfalso; exact c121 (by rw [t7, ← nI_add])) (fun c121 => ?_)
    refine lv_iconst (v := nI 1) hx hb dL_isArgued_236 (by decide) ?_
    refine lv_goto (tgt := 241) hx hb dL_isArgued_237 (by decide) ?_
    exact W.zret (ty := .boolean) hx hb hr rfl (fun t ht _ => ⟨⟨_, (T, Bs96, pi97, kn98), rfl, ⟨rfl, hIT, hC95⟩, (by show va_P D vwCl (pm_cl y L T Bs96 pi97 kn98 Gs sv U) t.heap; rw [ht]; exact hP)⟩, hS.F ht⟩) hS.2.2 dL_isArgued_241

set_option maxHeartbeats 4000000 in
set_option maxRecDepth 100000 in
theorem k_L_isPrinted (l : Launch) (D : va_G) (y : Nat → ClassId) (L : Nat → Nat → Nat) (S : Nat → Nat → Nat) (Bs : Nat → Nat → Nat → Nat) (pi : Nat → Nat) (kn : Nat) (Gs : Nat → Nat → Nat → Nat) (sv : Nat → Nat) (U : pm_PT) (f z1 : Nat) (hI : pq_I S) (hC : pq_C pi kn) (hf : f < 30) (hz1 : 1 ≤ z1) (hz3 : z1 < 4) : Met l yL_isPrinted wsL_isPrinted ({ frames := 4, cells := 0, slots := 0, locals := 86 } : Room) (pm_wrn D (pm_ty y) [.ref (L 0 0), .int (nI f), .int (nI z1)] (pm_cl y L S Bs pi kn Gs sv U)) (pm_Qi D (fun (r : Int32) (u : pq_T) => r = nI 1 ∧ pq_I u.1 ∧ pq_C u.2.2.1 u.2.2.2) (fun (u : pq_T) => pm_cl y L u.1 u.2.1 u.2.2.1 u.2.2.2 Gs sv U) (pm_cl y L S Bs pi kn Gs sv U)) 0 0 (pm_ad (pm_cl y L S Bs pi kn Gs sv U)) := by
  refine Met.ofW (cc := cL_isPrinted) (maxL := 8) (ret := (some .boolean)) (by decide) rfl ?_
  intro p e s m args below meth c s₁ B hml hpre
  obtain ⟨rfl, ⟨hP, hK, hD0⟩, hN⟩ := hpre
  have hx := B.exec
  have hb := B.bytes
  have hr := B.returns
  have hts := atoms_spec (ws := wsL_isPrinted) B.pre
  have hown : s.vm.findClass RL = some m.cls := findClass_of_methodNamed B.named
  have hlocks := B.notSynchronized
  have hin3 : ∀ w ∈ u_ws RX3 TX3 5, w ∈ wsL_isPrinted := fun w h => List.mem_cons_of_mem _ (List.mem_append_left _ (List.mem_append_left _ (List.mem_append_left _ (List.mem_append_right _ h))))
  have hin2 : ∀ w ∈ u_ws RX2 TX2 15, w ∈ wsL_isPrinted := fun w h => List.mem_cons_of_mem _ (List.mem_append_left _ (List.mem_append_left _ (List.mem_append_right _ h)))
  have hin1 : ∀ w ∈ u_ws RX1 TX1 8, w ∈ wsL_isPrinted := fun w h => List.mem_cons_of_mem _ (List.mem_append_left _ (List.mem_append_right _ h))
  have hin0 : ∀ w ∈ u_ws RX0 TX0 2, w ∈ wsL_isPrinted := fun w h => List.mem_cons_of_mem _ (List.mem_append_right _ h)
  have hD := pm_ad_self hD0
  have hS : va_S (pm_ad (pm_cl y L S Bs pi kn Gs sv U)) s.heap s.heap [] := va_S.rf
  have hP : va_P D vwCl (pm_cl y L S Bs pi kn Gs sv U) s.heap := hP
  have hl := lv_entry ([.ref (L 0 0), .int (nI f), .int (nI z1)]) (n := 8) (Nat.le_of_ble_eq_true rfl)
  rw [lg_entry_eq]
  generalize (lg_sl ([.ref (L 0 0), .int (nI f), .int (nI z1)]) ++ List.replicate (8 - (lg_sl ([.ref (L 0 0), .int (nI f), .int (nI z1)])).length) Slot.unset).toArray = ls at hl ⊢
  have hl : lv_has ls 8 [(0, .ref (L 0 0)), (1, .int (nI f)), (2, .int (nI z1))] := hl
  rcases (show z1 = 1 ∨ z1 = 2 ∨ z1 = 3 by omega) with rfl | rfl | rfl
  · skip
    rcases pq_pri (S := S) (z := 1) (w := 10) hf (by decide) (by decide) (by decide) with ⟨hno, E⟩ | ⟨h0, h2, h10, T, E, t1, t2, t11, t0, tz⟩
    · skip
      refine lv_aload_n hx hb dL_isPrinted_0 rfl (lv_at hl 0 rfl) ?_
      refine lv_iload_n hx hb dL_isPrinted_1 rfl (lv_at hl 1 rfl) ?_
      refine lv_iconst (v := nI 0) hx hb dL_isPrinted_2 (by decide) ?_
      refine vp_callSi (W.runV (As := [.int (nI f), .int (nI 0)]) (rest := []) ⟨hx, hb, hml, hown, hts⟩ (k_X3_of l D y L S Bs pi kn Gs sv U Bs Gs (nI f) (nI 0) hI.1) (cwV 2 hts gL_isPrinted_X3_of rfl rfl rfl hd_X3_of ⟨Nat.le_of_ble_eq_true rfl, Nat.le_of_ble_eq_true rfl⟩) ⟨pm_ro_blind, va_recv hK hP (ci := 3) (q0 := 0) rfl rfl, pm_ro_pre hP hK⟩ rfl rfl hl.1 rfl (lv_room (Nat.le_of_ble_eq_true rfl)) dL_isPrinted_3 ⟨Nat.le_of_ble_eq_true rfl, Nat.le_of_ble_eq_true rfl⟩) (fun r1 h2 => ?_)
      obtain rfl : r1 = nI (S 0 f) := h2.trans (pq_of0 (by omega))
      have := hI.1.how f (by omega)
      refine lv_iconst (v := nI 1) hx hb dL_isPrinted_6 (by decide) ?_
      refine kx_icmp_ne (tgt := 38) hx hb (by omega) (by decide) dL_isPrinted_7 (by decide) (fun c3 => ?_) (fun c3 => ?_)
      · skip
        refine lv_iconst (v := nI 0) hx hb dL_isPrinted_38 (by decide) ?_
        refine lv_istore_n (lv' := [(3, .int (nI 0)), (0, .ref (L 0 0)), (1, .int (nI f)), (2, .int (nI 1))]) hx hb dL_isPrinted_39 rfl hl (by decide) rfl (fun ls hl => ?_)
        refine lv_aload_n hx hb dL_isPrinted_40 rfl (lv_at hl 1 rfl) ?_
        refine lv_iconst (v := nI 5) hx hb dL_isPrinted_41 (by decide) ?_
        refine vp_callSi (W.runV (As := [.int (nI 5)]) (rest := []) ⟨hx, hb, hml, hown, hts⟩ (k_X3_count l D y L S Bs pi kn Gs sv U Bs Gs (nI 5) hI.1) (cwV 1 hts gL_isPrinted_X3_count rfl rfl rfl hd_X3_count ⟨Nat.le_of_ble_eq_true rfl, Nat.le_of_ble_eq_true rfl⟩) ⟨pm_ron_blind, va_recv hK hP (ci := 3) (q0 := 0) rfl rfl, pm_ron_pre hP hK hN⟩ rfl rfl hl.1 rfl (lv_room (Nat.le_of_ble_eq_true rfl)) dL_isPrinted_42 ⟨Nat.le_of_ble_eq_true rfl, Nat.le_of_ble_eq_true rfl⟩) (fun r4 h5 => ?_)
        obtain rfl : r4 = nI (S 10 1) := h5.trans (pq_co5)
        have := hI.1.pap
        refine lv_istore (lv' := [(4, .int (nI (S 10 1))), (3, .int (nI 0)), (0, .ref (L 0 0)), (1, .int (nI f)), (2, .int (nI 1))]) hx hb dL_isPrinted_45 hl (by decide) rfl (fun ls hl => ?_)
        refine lv_aload_n hx hb dL_isPrinted_47 rfl (lv_at hl 2 rfl) ?_
        refine lv_bipush (v := nI 6) hx hb dL_isPrinted_48 (by decide) ?_
        refine vp_callSi (W.runV (As := [.int (nI 6)]) (rest := []) ⟨hx, hb, hml, hown, hts⟩ (k_X3_count l D y L S Bs pi kn Gs sv U Bs Gs (nI 6) hI.1) (cwV 1 hts gL_isPrinted_X3_count rfl rfl rfl hd_X3_count ⟨Nat.le_of_ble_eq_true rfl, Nat.le_of_ble_eq_true rfl⟩) ⟨pm_ron_blind, va_recv hK hP (ci := 3) (q0 := 0) rfl rfl, pm_ron_pre hP hK hN⟩ rfl rfl hl.1 rfl (lv_room (Nat.le_of_ble_eq_true rfl)) dL_isPrinted_50 ⟨Nat.le_of_ble_eq_true rfl, Nat.le_of_ble_eq_true rfl⟩) (fun r6 h7 => ?_)
        obtain rfl : r6 = nI (S 10 2) := h7.trans (pq_co6)
        refine lv_istore (lv' := [(5, .int (nI (S 10 2))), (4, .int (nI (S 10 1))), (3, .int (nI 0)), (0, .ref (L 0 0)), (1, .int (nI f)), (2, .int (nI 1))]) hx hb dL_isPrinted_53 hl (by decide) rfl (fun ls hl => ?_)
        refine lv_aload_n hx hb dL_isPrinted_55 rfl (lv_at hl 3 rfl) ?_
        refine lv_bipush (v := nI 6) hx hb dL_isPrinted_56 (by decide) ?_
        refine lv_iload_n hx hb dL_isPrinted_58 rfl (lv_at hl 5 rfl) ?_
        refine kx_iadd hx hb dL_isPrinted_59 ?_
        refine lv_topi (fun x8 e9 => ?_)
        obtain rfl : x8 = nI 7 := e9.trans (rfl)
        refine vp_callSi (W.runV (As := [.int (nI 7)]) (rest := []) ⟨hx, hb, hml, hown, hts⟩ (k_X3_count l D y L S Bs pi kn Gs sv U Bs Gs (nI 7) hI.1) (cwV 1 hts gL_isPrinted_X3_count rfl rfl rfl hd_X3_count ⟨Nat.le_of_ble_eq_true rfl, Nat.le_of_ble_eq_true rfl⟩) ⟨pm_ron_blind, va_recv hK hP (ci := 3) (q0 := 0) rfl rfl, pm_ron_pre hP hK hN⟩ rfl rfl hl.1 rfl (lv_room (Nat.le_of_ble_eq_true rfl)) dL_isPrinted_60 ⟨Nat.le_of_ble_eq_true rfl, Nat.le_of_ble_eq_true rfl⟩) (fun r10 h11 => ?_)
        obtain rfl : r10 = nI (S 11 1) := h11.trans (pq_co7)
        refine lv_istore (lv' := [(6, .int (nI (S 11 1))), (5, .int (nI (S 10 2))), (4, .int (nI (S 10 1))), (3, .int (nI 0)), (0, .ref (L 0 0)), (1, .int (nI f)), (2, .int (nI 1))]) hx hb dL_isPrinted_63 hl (by decide) rfl (fun ls hl => ?_)
        refine lv_aload_n hx hb dL_isPrinted_65 rfl (lv_at hl 4 rfl) ?_
        refine lv_iload_n hx hb dL_isPrinted_66 rfl (lv_at hl 5 rfl) ?_
        refine lv_iload_n hx hb dL_isPrinted_67 rfl (lv_at hl 6 rfl) ?_
        refine va_calli (va_runV (As := [.int (nI f), .int (nI 1)]) (rest := []) ⟨hx, hb, hml, hown, hts⟩ (k_X3_print l D y L S Bs pi kn Gs sv U (fun i => Bs (pi i)) Gs (nI f) (nI 1) (pq_CI hC) hI.1) (cwV 2 hts gL_isPrinted_X3_print rfl rfl rfl hd_X3_print ⟨Nat.le_of_ble_eq_true rfl, Nat.le_of_ble_eq_true rfl⟩) ⟨pm_wr_blind, va_recv hK hP (ci := 3) (q0 := 0) rfl rfl, pm_wr_pre hP hK hD⟩ rfl rfl hl.1 rfl (lv_room (Nat.le_of_ble_eq_true rfl)) dL_isPrinted_68 ⟨Nat.le_of_ble_eq_true rfl, Nat.le_of_ble_eq_true rfl⟩) hS (fun q _ h9 => pm_ad_all hD q h9) (pm_ad_all hD) (fun r12 u17 t13 H1 locs ht14 _ h18 hB15 _ hk16 hS => ?_)
        have hB15 : va_P D vwCl (pm_cl y L S (pm_ub Bs (pi kn) S) (pm_rp pi kn (-5)) (pm_rk kn (-5)) Gs sv U) H1 := by have h8 : va_P D vwCl (pm_cl y L (pm_aPrint S (nI f) (nI 1)).2 (pm_ub Bs (pi kn) S) (pm_rp pi kn (pm_aPrint S (nI f) (nI 1)).1) (pm_rk kn (pm_aPrint S (nI f) (nI 1)).1) Gs sv U) t13.heap := hB15; rw [E] at h8; rw [← ht14]; exact h8
        obtain rfl : r12 = -5 := h18.trans (by rw [E])
        obtain ⟨hP, hD⟩ := pm_all (D := D) (cl := vwCl) (H1 := H1) hD (w' := pm_cl y L S (pm_ub Bs (pi kn) S) (pm_rp pi kn (-5)) (pm_rk kn (-5)) Gs sv U) hB15 (pm_cl_fst ..)
        have hC19 := pq_C_r hC (-5)
        generalize pm_ub Bs (pi kn) S = Bs20 at hP hD
        generalize pm_rp pi kn (-5) = pi21 at hP hD hC19
        generalize pm_rk kn (-5) = kn22 at hP hD hC19
        generalize H1 = H at hP hS ⊢
        have hP : va_P D vwCl (pm_cl y L S Bs20 pi21 kn22 Gs sv U) H := hP
        have hD : va_D (pm_ad (pm_cl y L S Bs pi kn Gs sv U)) (pm_cl y L S Bs20 pi21 kn22 Gs sv U) := hD
        refine lv_istore (lv' := [(7, .int (-5)), (6, .int (nI (S 11 1))), (5, .int (nI (S 10 2))), (4, .int (nI (S 10 1))), (3, .int (nI 0)), (0, .ref (L 0 0)), (1, .int (nI f)), (2, .int (nI 1))]) hx hb dL_isPrinted_71 hl (by decide) rfl (fun ls hl => ?_)
        refine lv_iload_n hx hb dL_isPrinted_73 rfl (lv_at hl 4 rfl) ?_
        refine lv_if_ne (tgt := 100) hx hb dL_isPrinted_74 (by decide) (fun c23 => (c23 (by decide)).elim) (fun _ => ?_)
        refine lv_iload hx hb dL_isPrinted_77 (lv_at hl 0 rfl) ?_
        refine lv_bipush (v := (-5)) hx hb dL_isPrinted_79 (by decide) ?_
        refine lv_icmp_ne (tgt := 98) hx hb dL_isPrinted_81 (by decide) (fun c24 => (c24 (by decide)).elim) (fun _ => ?_)
        refine lv_aload_n hx hb dL_isPrinted_84 rfl (lv_at hl 5 rfl) ?_
        refine lv_iconst (v := nI 5) hx hb dL_isPrinted_85 (by decide) ?_
        refine vp_callSi (W.runV (As := [.int (nI 5)]) (rest := []) ⟨hx, hb, hml, hown, hts⟩ (k_X3_count l D y L S Bs20 pi21 kn22 Gs sv U Bs Gs (nI 5) hI.1) (cwV 1 hts gL_isPrinted_X3_count rfl rfl rfl hd_X3_count ⟨Nat.le_of_ble_eq_true rfl, Nat.le_of_ble_eq_true rfl⟩) ⟨pm_ron_blind, va_recv hK hP (ci := 3) (q0 := 0) rfl rfl, pm_ron_pre hP hK hN⟩ rfl rfl hl.1 rfl (lv_room (Nat.le_of_ble_eq_true rfl)) dL_isPrinted_86 ⟨Nat.le_of_ble_eq_true rfl, Nat.le_of_ble_eq_true rfl⟩) (fun r25 h26 => ?_)
        obtain rfl : r25 = nI (S 10 1) := h26.trans (pq_co5)
        have := hI.1.pap
        refine lv_iload hx hb dL_isPrinted_89 (lv_at hl 3 rfl) ?_
        refine kx_icmp_ne (tgt := 98) hx hb (by omega) (by omega) dL_isPrinted_91 (by decide) (fun c27 => by exfalso; omega) (fun c27 => ?_)
        refine lv_iconst (v := nI 1) hx hb dL_isPrinted_94 (by decide) ?_
        refine lv_goto (tgt := 99) hx hb dL_isPrinted_95 (by decide) ?_
        exact W.zret (ty := .boolean) hx hb hr rfl (fun t ht _ => ⟨⟨_, (S, Bs20, pi21, kn22), rfl, ⟨rfl, hI, hC19⟩, (by show va_P D vwCl (pm_cl y L S Bs20 pi21 kn22 Gs sv U) t.heap; rw [ht]; exact hP)⟩, hS.F ht⟩) hS.2.2 dL_isPrinted_99
      · skip
        refine lv_iload_n hx hb dL_isPrinted_10 rfl (lv_at hl 2 rfl) ?_
        refine lv_aload_n hx hb dL_isPrinted_11 rfl (lv_at hl 0 rfl) ?_
        refine lv_iload_n hx hb dL_isPrinted_12 rfl (lv_at hl 1 rfl) ?_
        refine lv_iconst (v := nI 4) hx hb dL_isPrinted_13 (by decide) ?_
        refine vp_callSi (W.runV (As := [.int (nI f), .int (nI 4)]) (rest := [.int (nI 1)]) ⟨hx, hb, hml, hown, hts⟩ (k_X3_of l D y L S Bs pi kn Gs sv U Bs Gs (nI f) (nI 4) hI.1) (cwV 2 hts gL_isPrinted_X3_of rfl rfl rfl hd_X3_of ⟨Nat.le_of_ble_eq_true rfl, Nat.le_of_ble_eq_true rfl⟩) ⟨pm_ro_blind, va_recv hK hP (ci := 3) (q0 := 0) rfl rfl, pm_ro_pre hP hK⟩ rfl rfl hl.1 rfl (lv_room (Nat.le_of_ble_eq_true rfl)) dL_isPrinted_14 ⟨Nat.le_of_ble_eq_true rfl, Nat.le_of_ble_eq_true rfl⟩) (fun r28 h29 => ?_)
        obtain rfl : r28 = nI (S 2 f) := h29.trans (pq_of4 (by omega))
        have := hI.1.size f (by omega)
        refine kx_icmp_gt (tgt := 38) hx hb (by decide) (by omega) dL_isPrinted_17 (by decide) (fun c30 => ?_) (fun c30 => ?_)
        · skip
          refine lv_iconst (v := nI 0) hx hb dL_isPrinted_38 (by decide) ?_
          refine lv_istore_n (lv' := [(3, .int (nI 0)), (0, .ref (L 0 0)), (1, .int (nI f)), (2, .int (nI 1))]) hx hb dL_isPrinted_39 rfl hl (by decide) rfl (fun ls hl => ?_)
          refine lv_aload_n hx hb dL_isPrinted_40 rfl (lv_at hl 1 rfl) ?_
          refine lv_iconst (v := nI 5) hx hb dL_isPrinted_41 (by decide) ?_
          refine vp_callSi (W.runV (As := [.int (nI 5)]) (rest := []) ⟨hx, hb, hml, hown, hts⟩ (k_X3_count l D y L S Bs pi kn Gs sv U Bs Gs (nI 5) hI.1) (cwV 1 hts gL_isPrinted_X3_count rfl rfl rfl hd_X3_count ⟨Nat.le_of_ble_eq_true rfl, Nat.le_of_ble_eq_true rfl⟩) ⟨pm_ron_blind, va_recv hK hP (ci := 3) (q0 := 0) rfl rfl, pm_ron_pre hP hK hN⟩ rfl rfl hl.1 rfl (lv_room (Nat.le_of_ble_eq_true rfl)) dL_isPrinted_42 ⟨Nat.le_of_ble_eq_true rfl, Nat.le_of_ble_eq_true rfl⟩) (fun r31 h32 => ?_)
          obtain rfl : r31 = nI (S 10 1) := h32.trans (pq_co5)
          have := hI.1.pap
          refine lv_istore (lv' := [(4, .int (nI (S 10 1))), (3, .int (nI 0)), (0, .ref (L 0 0)), (1, .int (nI f)), (2, .int (nI 1))]) hx hb dL_isPrinted_45 hl (by decide) rfl (fun ls hl => ?_)
          refine lv_aload_n hx hb dL_isPrinted_47 rfl (lv_at hl 2 rfl) ?_
          refine lv_bipush (v := nI 6) hx hb dL_isPrinted_48 (by decide) ?_
          refine vp_callSi (W.runV (As := [.int (nI 6)]) (rest := []) ⟨hx, hb, hml, hown, hts⟩ (k_X3_count l D y L S Bs pi kn Gs sv U Bs Gs (nI 6) hI.1) (cwV 1 hts gL_isPrinted_X3_count rfl rfl rfl hd_X3_count ⟨Nat.le_of_ble_eq_true rfl, Nat.le_of_ble_eq_true rfl⟩) ⟨pm_ron_blind, va_recv hK hP (ci := 3) (q0 := 0) rfl rfl, pm_ron_pre hP hK hN⟩ rfl rfl hl.1 rfl (lv_room (Nat.le_of_ble_eq_true rfl)) dL_isPrinted_50 ⟨Nat.le_of_ble_eq_true rfl, Nat.le_of_ble_eq_true rfl⟩) (fun r33 h34 => ?_)
          obtain rfl : r33 = nI (S 10 2) := h34.trans (pq_co6)
          refine lv_istore (lv' := [(5, .int (nI (S 10 2))), (4, .int (nI (S 10 1))), (3, .int (nI 0)), (0, .ref (L 0 0)), (1, .int (nI f)), (2, .int (nI 1))]) hx hb dL_isPrinted_53 hl (by decide) rfl (fun ls hl => ?_)
          refine lv_aload_n hx hb dL_isPrinted_55 rfl (lv_at hl 3 rfl) ?_
          refine lv_bipush (v := nI 6) hx hb dL_isPrinted_56 (by decide) ?_
          refine lv_iload_n hx hb dL_isPrinted_58 rfl (lv_at hl 5 rfl) ?_
          refine kx_iadd hx hb dL_isPrinted_59 ?_
          refine lv_topi (fun x35 e36 => ?_)
          obtain rfl : x35 = nI 7 := e36.trans (rfl)
          refine vp_callSi (W.runV (As := [.int (nI 7)]) (rest := []) ⟨hx, hb, hml, hown, hts⟩ (k_X3_count l D y L S Bs pi kn Gs sv U Bs Gs (nI 7) hI.1) (cwV 1 hts gL_isPrinted_X3_count rfl rfl rfl hd_X3_count ⟨Nat.le_of_ble_eq_true rfl, Nat.le_of_ble_eq_true rfl⟩) ⟨pm_ron_blind, va_recv hK hP (ci := 3) (q0 := 0) rfl rfl, pm_ron_pre hP hK hN⟩ rfl rfl hl.1 rfl (lv_room (Nat.le_of_ble_eq_true rfl)) dL_isPrinted_60 ⟨Nat.le_of_ble_eq_true rfl, Nat.le_of_ble_eq_true rfl⟩) (fun r37 h38 => ?_)
          obtain rfl : r37 = nI (S 11 1) := h38.trans (pq_co7)
          refine lv_istore (lv' := [(6, .int (nI (S 11 1))), (5, .int (nI (S 10 2))), (4, .int (nI (S 10 1))), (3, .int (nI 0)), (0, .ref (L 0 0)), (1, .int (nI f)), (2, .int (nI 1))]) hx hb dL_isPrinted_63 hl (by decide) rfl (fun ls hl => ?_)
          refine lv_aload_n hx hb dL_isPrinted_65 rfl (lv_at hl 4 rfl) ?_
          refine lv_iload_n hx hb dL_isPrinted_66 rfl (lv_at hl 5 rfl) ?_
          refine lv_iload_n hx hb dL_isPrinted_67 rfl (lv_at hl 6 rfl) ?_
          refine va_calli (va_runV (As := [.int (nI f), .int (nI 1)]) (rest := []) ⟨hx, hb, hml, hown, hts⟩ (k_X3_print l D y L S Bs pi kn Gs sv U (fun i => Bs (pi i)) Gs (nI f) (nI 1) (pq_CI hC) hI.1) (cwV 2 hts gL_isPrinted_X3_print rfl rfl rfl hd_X3_print ⟨Nat.le_of_ble_eq_true rfl, Nat.le_of_ble_eq_true rfl⟩) ⟨pm_wr_blind, va_recv hK hP (ci := 3) (q0 := 0) rfl rfl, pm_wr_pre hP hK hD⟩ rfl rfl hl.1 rfl (lv_room (Nat.le_of_ble_eq_true rfl)) dL_isPrinted_68 ⟨Nat.le_of_ble_eq_true rfl, Nat.le_of_ble_eq_true rfl⟩) hS (fun q _ h9 => pm_ad_all hD q h9) (pm_ad_all hD) (fun r39 u44 t40 H1 locs ht41 _ h45 hB42 _ hk43 hS => ?_)
          have hB42 : va_P D vwCl (pm_cl y L S (pm_ub Bs (pi kn) S) (pm_rp pi kn (-5)) (pm_rk kn (-5)) Gs sv U) H1 := by have h8 : va_P D vwCl (pm_cl y L (pm_aPrint S (nI f) (nI 1)).2 (pm_ub Bs (pi kn) S) (pm_rp pi kn (pm_aPrint S (nI f) (nI 1)).1) (pm_rk kn (pm_aPrint S (nI f) (nI 1)).1) Gs sv U) t40.heap := hB42; rw [E] at h8; rw [← ht41]; exact h8
          obtain rfl : r39 = -5 := h45.trans (by rw [E])
          obtain ⟨hP, hD⟩ := pm_all (D := D) (cl := vwCl) (H1 := H1) hD (w' := pm_cl y L S (pm_ub Bs (pi kn) S) (pm_rp pi kn (-5)) (pm_rk kn (-5)) Gs sv U) hB42 (pm_cl_fst ..)
          have hC46 := pq_C_r hC (-5)
          generalize pm_ub Bs (pi kn) S = Bs47 at hP hD
          generalize pm_rp pi kn (-5) = pi48 at hP hD hC46
          generalize pm_rk kn (-5) = kn49 at hP hD hC46
          generalize H1 = H at hP hS ⊢
          have hP : va_P D vwCl (pm_cl y L S Bs47 pi48 kn49 Gs sv U) H := hP
          have hD : va_D (pm_ad (pm_cl y L S Bs pi kn Gs sv U)) (pm_cl y L S Bs47 pi48 kn49 Gs sv U) := hD
          refine lv_istore (lv' := [(7, .int (-5)), (6, .int (nI (S 11 1))), (5, .int (nI (S 10 2))), (4, .int (nI (S 10 1))), (3, .int (nI 0)), (0, .ref (L 0 0)), (1, .int (nI f)), (2, .int (nI 1))]) hx hb dL_isPrinted_71 hl (by decide) rfl (fun ls hl => ?_)
          refine lv_iload_n hx hb dL_isPrinted_73 rfl (lv_at hl 4 rfl) ?_
          refine lv_if_ne (tgt := 100) hx hb dL_isPrinted_74 (by decide) (fun c50 => (c50 (by decide)).elim) (fun _ => ?_)
          refine lv_iload hx hb dL_isPrinted_77 (lv_at hl 0 rfl) ?_
          refine lv_bipush (v := (-5)) hx hb dL_isPrinted_79 (by decide) ?_
          refine lv_icmp_ne (tgt := 98) hx hb dL_isPrinted_81 (by decide) (fun c51 => (c51 (by decide)).elim) (fun _ => ?_)
          refine lv_aload_n hx hb dL_isPrinted_84 rfl (lv_at hl 5 rfl) ?_
          refine lv_iconst (v := nI 5) hx hb dL_isPrinted_85 (by decide) ?_
          refine vp_callSi (W.runV (As := [.int (nI 5)]) (rest := []) ⟨hx, hb, hml, hown, hts⟩ (k_X3_count l D y L S Bs47 pi48 kn49 Gs sv U Bs Gs (nI 5) hI.1) (cwV 1 hts gL_isPrinted_X3_count rfl rfl rfl hd_X3_count ⟨Nat.le_of_ble_eq_true rfl, Nat.le_of_ble_eq_true rfl⟩) ⟨pm_ron_blind, va_recv hK hP (ci := 3) (q0 := 0) rfl rfl, pm_ron_pre hP hK hN⟩ rfl rfl hl.1 rfl (lv_room (Nat.le_of_ble_eq_true rfl)) dL_isPrinted_86 ⟨Nat.le_of_ble_eq_true rfl, Nat.le_of_ble_eq_true rfl⟩) (fun r52 h53 => ?_)
          obtain rfl : r52 = nI (S 10 1) := h53.trans (pq_co5)
          have := hI.1.pap
          refine lv_iload hx hb dL_isPrinted_89 (lv_at hl 3 rfl) ?_
          refine kx_icmp_ne (tgt := 98) hx hb (by omega) (by omega) dL_isPrinted_91 (by decide) (fun c54 => by exfalso; omega) (fun c54 => ?_)
          refine lv_iconst (v := nI 1) hx hb dL_isPrinted_94 (by decide) ?_
          refine lv_goto (tgt := 99) hx hb dL_isPrinted_95 (by decide) ?_
          exact W.zret (ty := .boolean) hx hb hr rfl (fun t ht _ => ⟨⟨_, (S, Bs47, pi48, kn49), rfl, ⟨rfl, hI, hC46⟩, (by show va_P D vwCl (pm_cl y L S Bs47 pi48 kn49 Gs sv U) t.heap; rw [ht]; exact hP)⟩, hS.F ht⟩) hS.2.2 dL_isPrinted_99
        · skip
          refine lv_bipush (v := nI 10) hx hb dL_isPrinted_20 (by decide) ?_
          refine lv_iload_n hx hb dL_isPrinted_22 rfl (lv_at hl 2 rfl) ?_
          refine kx_imul hx hb dL_isPrinted_23 ?_
          refine lv_topi (fun x55 e56 => ?_)
          obtain rfl : x55 = nI 10 := e56.trans (rfl)
          refine lv_iload_n hx hb dL_isPrinted_24 rfl (lv_at hl 2 rfl) ?_
          refine kx_imul hx hb dL_isPrinted_25 ?_
          refine lv_topi (fun x57 e58 => ?_)
          obtain rfl : x57 = nI 10 := e58.trans (rfl)
          refine lv_aload_n hx hb dL_isPrinted_26 rfl (lv_at hl 0 rfl) ?_
          refine lv_iconst (v := nI 5) hx hb dL_isPrinted_27 (by decide) ?_
          refine vp_callSi (W.runV (As := [.int (nI 5)]) (rest := [.int (nI 10)]) ⟨hx, hb, hml, hown, hts⟩ (k_X3_count l D y L S Bs pi kn Gs sv U Bs Gs (nI 5) hI.1) (cwV 1 hts gL_isPrinted_X3_count rfl rfl rfl hd_X3_count ⟨Nat.le_of_ble_eq_true rfl, Nat.le_of_ble_eq_true rfl⟩) ⟨pm_ron_blind, va_recv hK hP (ci := 3) (q0 := 0) rfl rfl, pm_ron_pre hP hK hN⟩ rfl rfl hl.1 rfl (lv_room (Nat.le_of_ble_eq_true rfl)) dL_isPrinted_28 ⟨Nat.le_of_ble_eq_true rfl, Nat.le_of_ble_eq_true rfl⟩) (fun r59 h60 => ?_)
          obtain rfl : r59 = nI (S 10 1) := h60.trans (pq_co5)
          have := hI.1.pap
          refine kx_icmp_gt (tgt := 38) hx hb (by decide) (by omega) dL_isPrinted_31 (by decide) (fun c61 => ?_) (fun c61 => by exfalso; omega)
          refine lv_iconst (v := nI 0) hx hb dL_isPrinted_38 (by decide) ?_
          refine lv_istore_n (lv' := [(3, .int (nI 0)), (0, .ref (L 0 0)), (1, .int (nI f)), (2, .int (nI 1))]) hx hb dL_isPrinted_39 rfl hl (by decide) rfl (fun ls hl => ?_)
          refine lv_aload_n hx hb dL_isPrinted_40 rfl (lv_at hl 1 rfl) ?_
          refine lv_iconst (v := nI 5) hx hb dL_isPrinted_41 (by decide) ?_
          refine vp_callSi (W.runV (As := [.int (nI 5)]) (rest := []) ⟨hx, hb, hml, hown, hts⟩ (k_X3_count l D y L S Bs pi kn Gs sv U Bs Gs (nI 5) hI.1) (cwV 1 hts gL_isPrinted_X3_count rfl rfl rfl hd_X3_count ⟨Nat.le_of_ble_eq_true rfl, Nat.le_of_ble_eq_true rfl⟩) ⟨pm_ron_blind, va_recv hK hP (ci := 3) (q0 := 0) rfl rfl, pm_ron_pre hP hK hN⟩ rfl rfl hl.1 rfl (lv_room (Nat.le_of_ble_eq_true rfl)) dL_isPrinted_42 ⟨Nat.le_of_ble_eq_true rfl, Nat.le_of_ble_eq_true rfl⟩) (fun r62 h63 => ?_)
          obtain rfl : r62 = nI (S 10 1) := h63.trans (pq_co5)
          have := hI.1.pap
          refine lv_istore (lv' := [(4, .int (nI (S 10 1))), (3, .int (nI 0)), (0, .ref (L 0 0)), (1, .int (nI f)), (2, .int (nI 1))]) hx hb dL_isPrinted_45 hl (by decide) rfl (fun ls hl => ?_)
          refine lv_aload_n hx hb dL_isPrinted_47 rfl (lv_at hl 2 rfl) ?_
          refine lv_bipush (v := nI 6) hx hb dL_isPrinted_48 (by decide) ?_
          refine vp_callSi (W.runV (As := [.int (nI 6)]) (rest := []) ⟨hx, hb, hml, hown, hts⟩ (k_X3_count l D y L S Bs pi kn Gs sv U Bs Gs (nI 6) hI.1) (cwV 1 hts gL_isPrinted_X3_count rfl rfl rfl hd_X3_count ⟨Nat.le_of_ble_eq_true rfl, Nat.le_of_ble_eq_true rfl⟩) ⟨pm_ron_blind, va_recv hK hP (ci := 3) (q0 := 0) rfl rfl, pm_ron_pre hP hK hN⟩ rfl rfl hl.1 rfl (lv_room (Nat.le_of_ble_eq_true rfl)) dL_isPrinted_50 ⟨Nat.le_of_ble_eq_true rfl, Nat.le_of_ble_eq_true rfl⟩) (fun r64 h65 => ?_)
          obtain rfl : r64 = nI (S 10 2) := h65.trans (pq_co6)
          refine lv_istore (lv' := [(5, .int (nI (S 10 2))), (4, .int (nI (S 10 1))), (3, .int (nI 0)), (0, .ref (L 0 0)), (1, .int (nI f)), (2, .int (nI 1))]) hx hb dL_isPrinted_53 hl (by decide) rfl (fun ls hl => ?_)
          refine lv_aload_n hx hb dL_isPrinted_55 rfl (lv_at hl 3 rfl) ?_
          refine lv_bipush (v := nI 6) hx hb dL_isPrinted_56 (by decide) ?_
          refine lv_iload_n hx hb dL_isPrinted_58 rfl (lv_at hl 5 rfl) ?_
          refine kx_iadd hx hb dL_isPrinted_59 ?_
          refine lv_topi (fun x66 e67 => ?_)
          obtain rfl : x66 = nI 7 := e67.trans (rfl)
          refine vp_callSi (W.runV (As := [.int (nI 7)]) (rest := []) ⟨hx, hb, hml, hown, hts⟩ (k_X3_count l D y L S Bs pi kn Gs sv U Bs Gs (nI 7) hI.1) (cwV 1 hts gL_isPrinted_X3_count rfl rfl rfl hd_X3_count ⟨Nat.le_of_ble_eq_true rfl, Nat.le_of_ble_eq_true rfl⟩) ⟨pm_ron_blind, va_recv hK hP (ci := 3) (q0 := 0) rfl rfl, pm_ron_pre hP hK hN⟩ rfl rfl hl.1 rfl (lv_room (Nat.le_of_ble_eq_true rfl)) dL_isPrinted_60 ⟨Nat.le_of_ble_eq_true rfl, Nat.le_of_ble_eq_true rfl⟩) (fun r68 h69 => ?_)
          obtain rfl : r68 = nI (S 11 1) := h69.trans (pq_co7)
          refine lv_istore (lv' := [(6, .int (nI (S 11 1))), (5, .int (nI (S 10 2))), (4, .int (nI (S 10 1))), (3, .int (nI 0)), (0, .ref (L 0 0)), (1, .int (nI f)), (2, .int (nI 1))]) hx hb dL_isPrinted_63 hl (by decide) rfl (fun ls hl => ?_)
          refine lv_aload_n hx hb dL_isPrinted_65 rfl (lv_at hl 4 rfl) ?_
          refine lv_iload_n hx hb dL_isPrinted_66 rfl (lv_at hl 5 rfl) ?_
          refine lv_iload_n hx hb dL_isPrinted_67 rfl (lv_at hl 6 rfl) ?_
          refine va_calli (va_runV (As := [.int (nI f), .int (nI 1)]) (rest := []) ⟨hx, hb, hml, hown, hts⟩ (k_X3_print l D y L S Bs pi kn Gs sv U (fun i => Bs (pi i)) Gs (nI f) (nI 1) (pq_CI hC) hI.1) (cwV 2 hts gL_isPrinted_X3_print rfl rfl rfl hd_X3_print ⟨Nat.le_of_ble_eq_true rfl, Nat.le_of_ble_eq_true rfl⟩) ⟨pm_wr_blind, va_recv hK hP (ci := 3) (q0 := 0) rfl rfl, pm_wr_pre hP hK hD⟩ rfl rfl hl.1 rfl (lv_room (Nat.le_of_ble_eq_true rfl)) dL_isPrinted_68 ⟨Nat.le_of_ble_eq_true rfl, Nat.le_of_ble_eq_true rfl⟩) hS (fun q _ h9 => pm_ad_all hD q h9) (pm_ad_all hD) (fun r70 u75 t71 H1 locs ht72 _ h76 hB73 _ hk74 hS => ?_)
          have hB73 : va_P D vwCl (pm_cl y L S (pm_ub Bs (pi kn) S) (pm_rp pi kn (-5)) (pm_rk kn (-5)) Gs sv U) H1 := by have h8 : va_P D vwCl (pm_cl y L (pm_aPrint S (nI f) (nI 1)).2 (pm_ub Bs (pi kn) S) (pm_rp pi kn (pm_aPrint S (nI f) (nI 1)).1) (pm_rk kn (pm_aPrint S (nI f) (nI 1)).1) Gs sv U) t71.heap := hB73; rw [E] at h8; rw [← ht72]; exact h8
          obtain rfl : r70 = -5 := h76.trans (by rw [E])
          obtain ⟨hP, hD⟩ := pm_all (D := D) (cl := vwCl) (H1 := H1) hD (w' := pm_cl y L S (pm_ub Bs (pi kn) S) (pm_rp pi kn (-5)) (pm_rk kn (-5)) Gs sv U) hB73 (pm_cl_fst ..)
          have hC77 := pq_C_r hC (-5)
          generalize pm_ub Bs (pi kn) S = Bs78 at hP hD
          generalize pm_rp pi kn (-5) = pi79 at hP hD hC77
          generalize pm_rk kn (-5) = kn80 at hP hD hC77
          generalize H1 = H at hP hS ⊢
          have hP : va_P D vwCl (pm_cl y L S Bs78 pi79 kn80 Gs sv U) H := hP
          have hD : va_D (pm_ad (pm_cl y L S Bs pi kn Gs sv U)) (pm_cl y L S Bs78 pi79 kn80 Gs sv U) := hD
          refine lv_istore (lv' := [(7, .int (-5)), (6, .int (nI (S 11 1))), (5, .int (nI (S 10 2))), (4, .int (nI (S 10 1))), (3, .int (nI 0)), (0, .ref (L 0 0)), (1, .int (nI f)), (2, .int (nI 1))]) hx hb dL_isPrinted_71 hl (by decide) rfl (fun ls hl => ?_)
          refine lv_iload_n hx hb dL_isPrinted_73 rfl (lv_at hl 4 rfl) ?_
          refine lv_if_ne (tgt := 100) hx hb dL_isPrinted_74 (by decide) (fun c81 => (c81 (by decide)).elim) (fun _ => ?_)
          refine lv_iload hx hb dL_isPrinted_77 (lv_at hl 0 rfl) ?_
          refine lv_bipush (v := (-5)) hx hb dL_isPrinted_79 (by decide) ?_
          refine lv_icmp_ne (tgt := 98) hx hb dL_isPrinted_81 (by decide) (fun c82 => (c82 (by decide)).elim) (fun _ => ?_)
          refine lv_aload_n hx hb dL_isPrinted_84 rfl (lv_at hl 5 rfl) ?_
          refine lv_iconst (v := nI 5) hx hb dL_isPrinted_85 (by decide) ?_
          refine vp_callSi (W.runV (As := [.int (nI 5)]) (rest := []) ⟨hx, hb, hml, hown, hts⟩ (k_X3_count l D y L S Bs78 pi79 kn80 Gs sv U Bs Gs (nI 5) hI.1) (cwV 1 hts gL_isPrinted_X3_count rfl rfl rfl hd_X3_count ⟨Nat.le_of_ble_eq_true rfl, Nat.le_of_ble_eq_true rfl⟩) ⟨pm_ron_blind, va_recv hK hP (ci := 3) (q0 := 0) rfl rfl, pm_ron_pre hP hK hN⟩ rfl rfl hl.1 rfl (lv_room (Nat.le_of_ble_eq_true rfl)) dL_isPrinted_86 ⟨Nat.le_of_ble_eq_true rfl, Nat.le_of_ble_eq_true rfl⟩) (fun r83 h84 => ?_)
          obtain rfl : r83 = nI (S 10 1) := h84.trans (pq_co5)
          have := hI.1.pap
          refine lv_iload hx hb dL_isPrinted_89 (lv_at hl 3 rfl) ?_
          refine kx_icmp_ne (tgt := 98) hx hb (by omega) (by omega) dL_isPrinted_91 (by decide) (fun c85 => by exfalso; omega) (fun c85 => ?_)
          refine lv_iconst (v := nI 1) hx hb dL_isPrinted_94 (by decide) ?_
          refine lv_goto (tgt := 99) hx hb dL_isPrinted_95 (by decide) ?_
          exact W.zret (ty := .boolean) hx hb hr rfl (fun t ht _ => ⟨⟨_, (S, Bs78, pi79, kn80), rfl, ⟨rfl, hI, hC77⟩, (by show va_P D vwCl (pm_cl y L S Bs78 pi79 kn80 Gs sv U) t.heap; rw [ht]; exact hP)⟩, hS.F ht⟩) hS.2.2 dL_isPrinted_99
    · have hIT : pq_I T := by have h8 := pq_print hI (nI f) (nI 1); rw [E] at h8; exact h8
      refine lv_aload_n hx hb dL_isPrinted_0 rfl (lv_at hl 0 rfl) ?_
      refine lv_iload_n hx hb dL_isPrinted_1 rfl (lv_at hl 1 rfl) ?_
      refine lv_iconst (v := nI 0) hx hb dL_isPrinted_2 (by decide) ?_
      refine vp_callSi (W.runV (As := [.int (nI f), .int (nI 0)]) (rest := []) ⟨hx, hb, hml, hown, hts⟩ (k_X3_of l D y L S Bs pi kn Gs sv U Bs Gs (nI f) (nI 0) hI.1) (cwV 2 hts gL_isPrinted_X3_of rfl rfl rfl hd_X3_of ⟨Nat.le_of_ble_eq_true rfl, Nat.le_of_ble_eq_true rfl⟩) ⟨pm_ro_blind, va_recv hK hP (ci := 3) (q0 := 0) rfl rfl, pm_ro_pre hP hK⟩ rfl rfl hl.1 rfl (lv_room (Nat.le_of_ble_eq_true rfl)) dL_isPrinted_3 ⟨Nat.le_of_ble_eq_true rfl, Nat.le_of_ble_eq_true rfl⟩) (fun r86 h87 => ?_)
      obtain rfl : r86 = nI (S 0 f) := h87.trans (pq_of0 (by omega))
      have := hI.1.how f (by omega)
      refine lv_iconst (v := nI 1) hx hb dL_isPrinted_6 (by decide) ?_
      refine kx_icmp_ne (tgt := 38) hx hb (by omega) (by decide) dL_isPrinted_7 (by decide) (fun c88 => by exfalso; omega) (fun c88 => ?_)
      refine lv_iload_n hx hb dL_isPrinted_10 rfl (lv_at hl 2 rfl) ?_
      refine lv_aload_n hx hb dL_isPrinted_11 rfl (lv_at hl 0 rfl) ?_
      refine lv_iload_n hx hb dL_isPrinted_12 rfl (lv_at hl 1 rfl) ?_
      refine lv_iconst (v := nI 4) hx hb dL_isPrinted_13 (by decide) ?_
      refine vp_callSi (W.runV (As := [.int (nI f), .int (nI 4)]) (rest := [.int (nI 1)]) ⟨hx, hb, hml, hown, hts⟩ (k_X3_of l D y L S Bs pi kn Gs sv U Bs Gs (nI f) (nI 4) hI.1) (cwV 2 hts gL_isPrinted_X3_of rfl rfl rfl hd_X3_of ⟨Nat.le_of_ble_eq_true rfl, Nat.le_of_ble_eq_true rfl⟩) ⟨pm_ro_blind, va_recv hK hP (ci := 3) (q0 := 0) rfl rfl, pm_ro_pre hP hK⟩ rfl rfl hl.1 rfl (lv_room (Nat.le_of_ble_eq_true rfl)) dL_isPrinted_14 ⟨Nat.le_of_ble_eq_true rfl, Nat.le_of_ble_eq_true rfl⟩) (fun r89 h90 => ?_)
      obtain rfl : r89 = nI (S 2 f) := h90.trans (pq_of4 (by omega))
      have := hI.1.size f (by omega)
      refine kx_icmp_gt (tgt := 38) hx hb (by decide) (by omega) dL_isPrinted_17 (by decide) (fun c91 => by exfalso; omega) (fun c91 => ?_)
      refine lv_bipush (v := nI 10) hx hb dL_isPrinted_20 (by decide) ?_
      refine lv_iload_n hx hb dL_isPrinted_22 rfl (lv_at hl 2 rfl) ?_
      refine kx_imul hx hb dL_isPrinted_23 ?_
      refine lv_topi (fun x92 e93 => ?_)
      obtain rfl : x92 = nI 10 := e93.trans (rfl)
      refine lv_iload_n hx hb dL_isPrinted_24 rfl (lv_at hl 2 rfl) ?_
      refine kx_imul hx hb dL_isPrinted_25 ?_
      refine lv_topi (fun x94 e95 => ?_)
      obtain rfl : x94 = nI 10 := e95.trans (rfl)
      refine lv_aload_n hx hb dL_isPrinted_26 rfl (lv_at hl 0 rfl) ?_
      refine lv_iconst (v := nI 5) hx hb dL_isPrinted_27 (by decide) ?_
      refine vp_callSi (W.runV (As := [.int (nI 5)]) (rest := [.int (nI 10)]) ⟨hx, hb, hml, hown, hts⟩ (k_X3_count l D y L S Bs pi kn Gs sv U Bs Gs (nI 5) hI.1) (cwV 1 hts gL_isPrinted_X3_count rfl rfl rfl hd_X3_count ⟨Nat.le_of_ble_eq_true rfl, Nat.le_of_ble_eq_true rfl⟩) ⟨pm_ron_blind, va_recv hK hP (ci := 3) (q0 := 0) rfl rfl, pm_ron_pre hP hK hN⟩ rfl rfl hl.1 rfl (lv_room (Nat.le_of_ble_eq_true rfl)) dL_isPrinted_28 ⟨Nat.le_of_ble_eq_true rfl, Nat.le_of_ble_eq_true rfl⟩) (fun r96 h97 => ?_)
      obtain rfl : r96 = nI (S 10 1) := h97.trans (pq_co5)
      have := hI.1.pap
      refine kx_icmp_gt (tgt := 38) hx hb (by decide) (by omega) dL_isPrinted_31 (by decide) (fun c98 => by exfalso; omega) (fun c98 => ?_)
      refine lv_iconst (v := nI 1) hx hb dL_isPrinted_34 (by decide) ?_
      refine lv_goto (tgt := 39) hx hb dL_isPrinted_35 (by decide) ?_
      refine lv_istore_n (lv' := [(3, .int (nI 1)), (0, .ref (L 0 0)), (1, .int (nI f)), (2, .int (nI 1))]) hx hb dL_isPrinted_39 rfl hl (by decide) rfl (fun ls hl => ?_)
      refine lv_aload_n hx hb dL_isPrinted_40 rfl (lv_at hl 1 rfl) ?_
      refine lv_iconst (v := nI 5) hx hb dL_isPrinted_41 (by decide) ?_
      refine vp_callSi (W.runV (As := [.int (nI 5)]) (rest := []) ⟨hx, hb, hml, hown, hts⟩ (k_X3_count l D y L S Bs pi kn Gs sv U Bs Gs (nI 5) hI.1) (cwV 1 hts gL_isPrinted_X3_count rfl rfl rfl hd_X3_count ⟨Nat.le_of_ble_eq_true rfl, Nat.le_of_ble_eq_true rfl⟩) ⟨pm_ron_blind, va_recv hK hP (ci := 3) (q0 := 0) rfl rfl, pm_ron_pre hP hK hN⟩ rfl rfl hl.1 rfl (lv_room (Nat.le_of_ble_eq_true rfl)) dL_isPrinted_42 ⟨Nat.le_of_ble_eq_true rfl, Nat.le_of_ble_eq_true rfl⟩) (fun r99 h100 => ?_)
      obtain rfl : r99 = nI (S 10 1) := h100.trans (pq_co5)
      have := hI.1.pap
      refine lv_istore (lv' := [(4, .int (nI (S 10 1))), (3, .int (nI 1)), (0, .ref (L 0 0)), (1, .int (nI f)), (2, .int (nI 1))]) hx hb dL_isPrinted_45 hl (by decide) rfl (fun ls hl => ?_)
      refine lv_aload_n hx hb dL_isPrinted_47 rfl (lv_at hl 2 rfl) ?_
      refine lv_bipush (v := nI 6) hx hb dL_isPrinted_48 (by decide) ?_
      refine vp_callSi (W.runV (As := [.int (nI 6)]) (rest := []) ⟨hx, hb, hml, hown, hts⟩ (k_X3_count l D y L S Bs pi kn Gs sv U Bs Gs (nI 6) hI.1) (cwV 1 hts gL_isPrinted_X3_count rfl rfl rfl hd_X3_count ⟨Nat.le_of_ble_eq_true rfl, Nat.le_of_ble_eq_true rfl⟩) ⟨pm_ron_blind, va_recv hK hP (ci := 3) (q0 := 0) rfl rfl, pm_ron_pre hP hK hN⟩ rfl rfl hl.1 rfl (lv_room (Nat.le_of_ble_eq_true rfl)) dL_isPrinted_50 ⟨Nat.le_of_ble_eq_true rfl, Nat.le_of_ble_eq_true rfl⟩) (fun r101 h102 => ?_)
      obtain rfl : r101 = nI (S 10 2) := h102.trans (pq_co6)
      refine lv_istore (lv' := [(5, .int (nI (S 10 2))), (4, .int (nI (S 10 1))), (3, .int (nI 1)), (0, .ref (L 0 0)), (1, .int (nI f)), (2, .int (nI 1))]) hx hb dL_isPrinted_53 hl (by decide) rfl (fun ls hl => ?_)
      refine lv_aload_n hx hb dL_isPrinted_55 rfl (lv_at hl 3 rfl) ?_
      refine lv_bipush (v := nI 6) hx hb dL_isPrinted_56 (by decide) ?_
      refine lv_iload_n hx hb dL_isPrinted_58 rfl (lv_at hl 5 rfl) ?_
      refine kx_iadd hx hb dL_isPrinted_59 ?_
      refine lv_topi (fun x103 e104 => ?_)
      obtain rfl : x103 = nI 7 := e104.trans (rfl)
      refine vp_callSi (W.runV (As := [.int (nI 7)]) (rest := []) ⟨hx, hb, hml, hown, hts⟩ (k_X3_count l D y L S Bs pi kn Gs sv U Bs Gs (nI 7) hI.1) (cwV 1 hts gL_isPrinted_X3_count rfl rfl rfl hd_X3_count ⟨Nat.le_of_ble_eq_true rfl, Nat.le_of_ble_eq_true rfl⟩) ⟨pm_ron_blind, va_recv hK hP (ci := 3) (q0 := 0) rfl rfl, pm_ron_pre hP hK hN⟩ rfl rfl hl.1 rfl (lv_room (Nat.le_of_ble_eq_true rfl)) dL_isPrinted_60 ⟨Nat.le_of_ble_eq_true rfl, Nat.le_of_ble_eq_true rfl⟩) (fun r105 h106 => ?_)
      obtain rfl : r105 = nI (S 11 1) := h106.trans (pq_co7)
      refine lv_istore (lv' := [(6, .int (nI (S 11 1))), (5, .int (nI (S 10 2))), (4, .int (nI (S 10 1))), (3, .int (nI 1)), (0, .ref (L 0 0)), (1, .int (nI f)), (2, .int (nI 1))]) hx hb dL_isPrinted_63 hl (by decide) rfl (fun ls hl => ?_)
      refine lv_aload_n hx hb dL_isPrinted_65 rfl (lv_at hl 4 rfl) ?_
      refine lv_iload_n hx hb dL_isPrinted_66 rfl (lv_at hl 5 rfl) ?_
      refine lv_iload_n hx hb dL_isPrinted_67 rfl (lv_at hl 6 rfl) ?_
      refine va_calli (va_runV (As := [.int (nI f), .int (nI 1)]) (rest := []) ⟨hx, hb, hml, hown, hts⟩ (k_X3_print l D y L S Bs pi kn Gs sv U (fun i => Bs (pi i)) Gs (nI f) (nI 1) (pq_CI hC) hI.1) (cwV 2 hts gL_isPrinted_X3_print rfl rfl rfl hd_X3_print ⟨Nat.le_of_ble_eq_true rfl, Nat.le_of_ble_eq_true rfl⟩) ⟨pm_wr_blind, va_recv hK hP (ci := 3) (q0 := 0) rfl rfl, pm_wr_pre hP hK hD⟩ rfl rfl hl.1 rfl (lv_room (Nat.le_of_ble_eq_true rfl)) dL_isPrinted_68 ⟨Nat.le_of_ble_eq_true rfl, Nat.le_of_ble_eq_true rfl⟩) hS (fun q _ h9 => pm_ad_all hD q h9) (pm_ad_all hD) (fun r107 u112 t108 H1 locs ht109 _ h113 hB110 _ hk111 hS => ?_)
      have hB110 : va_P D vwCl (pm_cl y L T (pm_ub Bs (pi kn) S) (pm_rp pi kn (nI (S 10 1 - 10))) (pm_rk kn (nI (S 10 1 - 10))) Gs sv U) H1 := by have h8 : va_P D vwCl (pm_cl y L (pm_aPrint S (nI f) (nI 1)).2 (pm_ub Bs (pi kn) S) (pm_rp pi kn (pm_aPrint S (nI f) (nI 1)).1) (pm_rk kn (pm_aPrint S (nI f) (nI 1)).1) Gs sv U) t108.heap := hB110; rw [E] at h8; rw [← ht109]; exact h8
      obtain rfl : r107 = nI (S 10 1 - 10) := h113.trans (by rw [E])
      obtain ⟨hP, hD⟩ := pm_all (D := D) (cl := vwCl) (H1 := H1) hD (w' := pm_cl y L T (pm_ub Bs (pi kn) S) (pm_rp pi kn (nI (S 10 1 - 10))) (pm_rk kn (nI (S 10 1 - 10))) Gs sv U) hB110 (pm_cl_fst ..)
      have hC114 := pq_C_r hC (nI (S 10 1 - 10))
      generalize pm_ub Bs (pi kn) S = Bs115 at hP hD
      generalize pm_rp pi kn (nI (S 10 1 - 10)) = pi116 at hP hD hC114
      generalize pm_rk kn (nI (S 10 1 - 10)) = kn117 at hP hD hC114
      generalize H1 = H at hP hS ⊢
      have hP : va_P D vwCl (pm_cl y L T Bs115 pi116 kn117 Gs sv U) H := hP
      have hD : va_D (pm_ad (pm_cl y L S Bs pi kn Gs sv U)) (pm_cl y L T Bs115 pi116 kn117 Gs sv U) := hD
      refine lv_istore (lv' := [(7, .int (nI (S 10 1 - 10))), (6, .int (nI (S 11 1))), (5, .int (nI (S 10 2))), (4, .int (nI (S 10 1))), (3, .int (nI 1)), (0, .ref (L 0 0)), (1, .int (nI f)), (2, .int (nI 1))]) hx hb dL_isPrinted_71 hl (by decide) rfl (fun ls hl => ?_)
      refine lv_iload_n hx hb dL_isPrinted_73 rfl (lv_at hl 4 rfl) ?_
      refine lv_if_ne (tgt := 100) hx hb dL_isPrinted_74 (by decide) (fun _ => ?_) (fun c118 => absurd c118 (by decide))
      refine lv_iload hx hb dL_isPrinted_100 (lv_at hl 0 rfl) ?_
      refine lv_iload hx hb dL_isPrinted_102 (lv_at hl 3 rfl) ?_
      refine lv_bipush (v := nI 10) hx hb dL_isPrinted_104 (by decide) ?_
      refine lv_iload_n hx hb dL_isPrinted_106 rfl (lv_at hl 7 rfl) ?_
      refine kx_imul hx hb dL_isPrinted_107 ?_
      refine lv_topi (fun x119 e120 => ?_)
      obtain rfl : x119 = nI 10 := e120.trans (rfl)
      refine lv_iload_n hx hb dL_isPrinted_108 rfl (lv_at hl 7 rfl) ?_
      refine kx_imul hx hb dL_isPrinted_109 ?_
      refine lv_topi (fun x121 e122 => ?_)
      obtain rfl : x121 = nI 10 := e122.trans (rfl)
      refine kx_isub hx hb (by omega) dL_isPrinted_110 ?_
      refine kx_icmp_ne (tgt := 181) hx hb (by omega) (by omega) dL_isPrinted_111 (by decide) (fun c123 => by exfalso; omega) (fun c123 => ?_)
      refine lv_aload_n hx hb dL_isPrinted_114 rfl (lv_at hl 5 rfl) ?_
      refine lv_iconst (v := nI 5) hx hb dL_isPrinted_115 (by decide) ?_
      refine vp_callSi (W.runV (As := [.int (nI 5)]) (rest := []) ⟨hx, hb, hml, hown, hts⟩ (k_X3_count l D y L T Bs115 pi116 kn117 Gs sv U Bs Gs (nI 5) hIT.1) (cwV 1 hts gL_isPrinted_X3_count rfl rfl rfl hd_X3_count ⟨Nat.le_of_ble_eq_true rfl, Nat.le_of_ble_eq_true rfl⟩) ⟨pm_ron_blind, va_recv hK hP (ci := 3) (q0 := 0) rfl rfl, pm_ron_pre hP hK hN⟩ rfl rfl hl.1 rfl (lv_room (Nat.le_of_ble_eq_true rfl)) dL_isPrinted_116 ⟨Nat.le_of_ble_eq_true rfl, Nat.le_of_ble_eq_true rfl⟩) (fun r124 h125 => ?_)
      obtain rfl : r124 = nI (T 10 1) := h125.trans (pq_co5)
      have := hIT.1.pap
      refine lv_iload hx hb dL_isPrinted_119 (lv_at hl 0 rfl) ?_
      refine kx_icmp_ne (tgt := 181) hx hb (by omega) (by omega) dL_isPrinted_121 (by decide) (fun c126 => by exfalso; omega) (fun c126 => ?_)
      refine lv_aload_n hx hb dL_isPrinted_124 rfl (lv_at hl 5 rfl) ?_
      refine lv_bipush (v := nI 6) hx hb dL_isPrinted_125 (by decide) ?_
      refine vp_callSi (W.runV (As := [.int (nI 6)]) (rest := []) ⟨hx, hb, hml, hown, hts⟩ (k_X3_count l D y L T Bs115 pi116 kn117 Gs sv U Bs Gs (nI 6) hIT.1) (cwV 1 hts gL_isPrinted_X3_count rfl rfl rfl hd_X3_count ⟨Nat.le_of_ble_eq_true rfl, Nat.le_of_ble_eq_true rfl⟩) ⟨pm_ron_blind, va_recv hK hP (ci := 3) (q0 := 0) rfl rfl, pm_ron_pre hP hK hN⟩ rfl rfl hl.1 rfl (lv_room (Nat.le_of_ble_eq_true rfl)) dL_isPrinted_127 ⟨Nat.le_of_ble_eq_true rfl, Nat.le_of_ble_eq_true rfl⟩) (fun r127 h128 => ?_)
      obtain rfl : r127 = nI (T 10 2) := h128.trans (pq_co6)
      refine lv_iload hx hb dL_isPrinted_130 (lv_at hl 2 rfl) ?_
      refine lv_bipush (v := nI 10) hx hb dL_isPrinted_132 (by decide) ?_
      refine lv_iload_n hx hb dL_isPrinted_134 rfl (lv_at hl 7 rfl) ?_
      refine kx_imul hx hb dL_isPrinted_135 ?_
      refine lv_topi (fun x129 e130 => ?_)
      obtain rfl : x129 = nI 10 := e130.trans (rfl)
      refine lv_iload_n hx hb dL_isPrinted_136 rfl (lv_at hl 7 rfl) ?_
      refine kx_imul hx hb dL_isPrinted_137 ?_
      refine lv_topi (fun x131 e132 => ?_)
      obtain rfl : x131 = nI 10 := e132.trans (rfl)
      refine lv_iadd hx hb dL_isPrinted_138 ?_
      refine lv_icmp_ne (tgt := 181) hx hb dL_isPrinted_139 (by decide) (fun c133 => by exfalso; exact c133 (by rw [t2, ← nI_add])) (fun c133 => ?_)
      refine lv_aload_n hx hb dL_isPrinted_142 rfl (lv_at hl 5 rfl) ?_
      refine lv_bipush (v := nI 6) hx hb dL_isPrinted_143 (by decide) ?_
      refine lv_iload_n hx hb dL_isPrinted_145 rfl (lv_at hl 7 rfl) ?_
      refine kx_iadd hx hb dL_isPrinted_146 ?_
      refine lv_topi (fun x134 e135 => ?_)
      obtain rfl : x134 = nI 7 := e135.trans (rfl)
      refine vp_callSi (W.runV (As := [.int (nI 7)]) (rest := []) ⟨hx, hb, hml, hown, hts⟩ (k_X3_count l D y L T Bs115 pi116 kn117 Gs sv U Bs Gs (nI 7) hIT.1) (cwV 1 hts gL_isPrinted_X3_count rfl rfl rfl hd_X3_count ⟨Nat.le_of_ble_eq_true rfl, Nat.le_of_ble_eq_true rfl⟩) ⟨pm_ron_blind, va_recv hK hP (ci := 3) (q0 := 0) rfl rfl, pm_ron_pre hP hK hN⟩ rfl rfl hl.1 rfl (lv_room (Nat.le_of_ble_eq_true rfl)) dL_isPrinted_147 ⟨Nat.le_of_ble_eq_true rfl, Nat.le_of_ble_eq_true rfl⟩) (fun r136 h137 => ?_)
      obtain rfl : r136 = nI (T 11 1) := h137.trans (pq_co7)
      refine lv_iload hx hb dL_isPrinted_150 (lv_at hl 1 rfl) ?_
      refine lv_iconst (v := nI 1) hx hb dL_isPrinted_152 (by decide) ?_
      refine lv_iadd hx hb dL_isPrinted_153 ?_
      refine lv_icmp_ne (tgt := 181) hx hb dL_isPrinted_154 (by decide) (fun c138 => by exfalso; exact c138 (by rw [t11, ← nI_add])) (fun c138 => ?_)
      refine lv_aload_n hx hb dL_isPrinted_157 rfl (lv_at hl 5 rfl) ?_
      refine lv_iload_n hx hb dL_isPrinted_158 rfl (lv_at hl 6 rfl) ?_
      refine lv_iconst (v := nI 0) hx hb dL_isPrinted_159 (by decide) ?_
      refine vp_callSi (W.runV (As := [.int (nI f), .int (nI 0)]) (rest := []) ⟨hx, hb, hml, hown, hts⟩ (k_X3_of l D y L T Bs115 pi116 kn117 Gs sv U Bs Gs (nI f) (nI 0) hIT.1) (cwV 2 hts gL_isPrinted_X3_of rfl rfl rfl hd_X3_of ⟨Nat.le_of_ble_eq_true rfl, Nat.le_of_ble_eq_true rfl⟩) ⟨pm_ro_blind, va_recv hK hP (ci := 3) (q0 := 0) rfl rfl, pm_ro_pre hP hK⟩ rfl rfl hl.1 rfl (lv_room (Nat.le_of_ble_eq_true rfl)) dL_isPrinted_160 ⟨Nat.le_of_ble_eq_true rfl, Nat.le_of_ble_eq_true rfl⟩) (fun r139 h140 => ?_)
      obtain rfl : r139 = nI (T 0 f) := h140.trans (pq_of0 (by omega))
      have := hIT.1.how f (by omega)
      refine lv_iconst (v := nI 3) hx hb dL_isPrinted_163 (by decide) ?_
      refine kx_icmp_ne (tgt := 181) hx hb (by omega) (by decide) dL_isPrinted_164 (by decide) (fun c141 => by exfalso; omega) (fun c141 => ?_)
      refine lv_aload_n hx hb dL_isPrinted_167 rfl (lv_at hl 5 rfl) ?_
      refine lv_iload_n hx hb dL_isPrinted_168 rfl (lv_at hl 6 rfl) ?_
      refine lv_iconst (v := nI 4) hx hb dL_isPrinted_169 (by decide) ?_
      refine vp_callSi (W.runV (As := [.int (nI f), .int (nI 4)]) (rest := []) ⟨hx, hb, hml, hown, hts⟩ (k_X3_of l D y L T Bs115 pi116 kn117 Gs sv U Bs Gs (nI f) (nI 4) hIT.1) (cwV 2 hts gL_isPrinted_X3_of rfl rfl rfl hd_X3_of ⟨Nat.le_of_ble_eq_true rfl, Nat.le_of_ble_eq_true rfl⟩) ⟨pm_ro_blind, va_recv hK hP (ci := 3) (q0 := 0) rfl rfl, pm_ro_pre hP hK⟩ rfl rfl hl.1 rfl (lv_room (Nat.le_of_ble_eq_true rfl)) dL_isPrinted_170 ⟨Nat.le_of_ble_eq_true rfl, Nat.le_of_ble_eq_true rfl⟩) (fun r142 h143 => ?_)
      obtain rfl : r142 = nI (T 2 f) := h143.trans (pq_of4 (by omega))
      have := hIT.1.size f (by omega)
      refine lv_iload_n hx hb dL_isPrinted_173 rfl (lv_at hl 7 rfl) ?_
      refine kx_icmp_ne (tgt := 181) hx hb (by omega) (by decide) dL_isPrinted_174 (by decide) (fun c144 => by exfalso; omega) (fun c144 => ?_)
      refine lv_iconst (v := nI 1) hx hb dL_isPrinted_177 (by decide) ?_
      refine lv_goto (tgt := 182) hx hb dL_isPrinted_178 (by decide) ?_
      exact W.zret (ty := .boolean) hx hb hr rfl (fun t ht _ => ⟨⟨_, (T, Bs115, pi116, kn117), rfl, ⟨rfl, hIT, hC114⟩, (by show va_P D vwCl (pm_cl y L T Bs115 pi116 kn117 Gs sv U) t.heap; rw [ht]; exact hP)⟩, hS.F ht⟩) hS.2.2 dL_isPrinted_182
  · skip
    rcases pq_pri (S := S) (z := 2) (w := 40) hf (by decide) (by decide) (by decide) with ⟨hno, E⟩ | ⟨h0, h2, h10, T, E, t1, t2, t11, t0, tz⟩
    · skip
      refine lv_aload_n hx hb dL_isPrinted_0 rfl (lv_at hl 0 rfl) ?_
      refine lv_iload_n hx hb dL_isPrinted_1 rfl (lv_at hl 1 rfl) ?_
      refine lv_iconst (v := nI 0) hx hb dL_isPrinted_2 (by decide) ?_
      refine vp_callSi (W.runV (As := [.int (nI f), .int (nI 0)]) (rest := []) ⟨hx, hb, hml, hown, hts⟩ (k_X3_of l D y L S Bs pi kn Gs sv U Bs Gs (nI f) (nI 0) hI.1) (cwV 2 hts gL_isPrinted_X3_of rfl rfl rfl hd_X3_of ⟨Nat.le_of_ble_eq_true rfl, Nat.le_of_ble_eq_true rfl⟩) ⟨pm_ro_blind, va_recv hK hP (ci := 3) (q0 := 0) rfl rfl, pm_ro_pre hP hK⟩ rfl rfl hl.1 rfl (lv_room (Nat.le_of_ble_eq_true rfl)) dL_isPrinted_3 ⟨Nat.le_of_ble_eq_true rfl, Nat.le_of_ble_eq_true rfl⟩) (fun r145 h146 => ?_)
      obtain rfl : r145 = nI (S 0 f) := h146.trans (pq_of0 (by omega))
      have := hI.1.how f (by omega)
      refine lv_iconst (v := nI 1) hx hb dL_isPrinted_6 (by decide) ?_
      refine kx_icmp_ne (tgt := 38) hx hb (by omega) (by decide) dL_isPrinted_7 (by decide) (fun c147 => ?_) (fun c147 => ?_)
      · skip
        refine lv_iconst (v := nI 0) hx hb dL_isPrinted_38 (by decide) ?_
        refine lv_istore_n (lv' := [(3, .int (nI 0)), (0, .ref (L 0 0)), (1, .int (nI f)), (2, .int (nI 2))]) hx hb dL_isPrinted_39 rfl hl (by decide) rfl (fun ls hl => ?_)
        refine lv_aload_n hx hb dL_isPrinted_40 rfl (lv_at hl 1 rfl) ?_
        refine lv_iconst (v := nI 5) hx hb dL_isPrinted_41 (by decide) ?_
        refine vp_callSi (W.runV (As := [.int (nI 5)]) (rest := []) ⟨hx, hb, hml, hown, hts⟩ (k_X3_count l D y L S Bs pi kn Gs sv U Bs Gs (nI 5) hI.1) (cwV 1 hts gL_isPrinted_X3_count rfl rfl rfl hd_X3_count ⟨Nat.le_of_ble_eq_true rfl, Nat.le_of_ble_eq_true rfl⟩) ⟨pm_ron_blind, va_recv hK hP (ci := 3) (q0 := 0) rfl rfl, pm_ron_pre hP hK hN⟩ rfl rfl hl.1 rfl (lv_room (Nat.le_of_ble_eq_true rfl)) dL_isPrinted_42 ⟨Nat.le_of_ble_eq_true rfl, Nat.le_of_ble_eq_true rfl⟩) (fun r148 h149 => ?_)
        obtain rfl : r148 = nI (S 10 1) := h149.trans (pq_co5)
        have := hI.1.pap
        refine lv_istore (lv' := [(4, .int (nI (S 10 1))), (3, .int (nI 0)), (0, .ref (L 0 0)), (1, .int (nI f)), (2, .int (nI 2))]) hx hb dL_isPrinted_45 hl (by decide) rfl (fun ls hl => ?_)
        refine lv_aload_n hx hb dL_isPrinted_47 rfl (lv_at hl 2 rfl) ?_
        refine lv_bipush (v := nI 6) hx hb dL_isPrinted_48 (by decide) ?_
        refine vp_callSi (W.runV (As := [.int (nI 6)]) (rest := []) ⟨hx, hb, hml, hown, hts⟩ (k_X3_count l D y L S Bs pi kn Gs sv U Bs Gs (nI 6) hI.1) (cwV 1 hts gL_isPrinted_X3_count rfl rfl rfl hd_X3_count ⟨Nat.le_of_ble_eq_true rfl, Nat.le_of_ble_eq_true rfl⟩) ⟨pm_ron_blind, va_recv hK hP (ci := 3) (q0 := 0) rfl rfl, pm_ron_pre hP hK hN⟩ rfl rfl hl.1 rfl (lv_room (Nat.le_of_ble_eq_true rfl)) dL_isPrinted_50 ⟨Nat.le_of_ble_eq_true rfl, Nat.le_of_ble_eq_true rfl⟩) (fun r150 h151 => ?_)
        obtain rfl : r150 = nI (S 10 2) := h151.trans (pq_co6)
        refine lv_istore (lv' := [(5, .int (nI (S 10 2))), (4, .int (nI (S 10 1))), (3, .int (nI 0)), (0, .ref (L 0 0)), (1, .int (nI f)), (2, .int (nI 2))]) hx hb dL_isPrinted_53 hl (by decide) rfl (fun ls hl => ?_)
        refine lv_aload_n hx hb dL_isPrinted_55 rfl (lv_at hl 3 rfl) ?_
        refine lv_bipush (v := nI 6) hx hb dL_isPrinted_56 (by decide) ?_
        refine lv_iload_n hx hb dL_isPrinted_58 rfl (lv_at hl 5 rfl) ?_
        refine kx_iadd hx hb dL_isPrinted_59 ?_
        refine lv_topi (fun x152 e153 => ?_)
        obtain rfl : x152 = nI 8 := e153.trans (rfl)
        refine vp_callSi (W.runV (As := [.int (nI 8)]) (rest := []) ⟨hx, hb, hml, hown, hts⟩ (k_X3_count l D y L S Bs pi kn Gs sv U Bs Gs (nI 8) hI.1) (cwV 1 hts gL_isPrinted_X3_count rfl rfl rfl hd_X3_count ⟨Nat.le_of_ble_eq_true rfl, Nat.le_of_ble_eq_true rfl⟩) ⟨pm_ron_blind, va_recv hK hP (ci := 3) (q0 := 0) rfl rfl, pm_ron_pre hP hK hN⟩ rfl rfl hl.1 rfl (lv_room (Nat.le_of_ble_eq_true rfl)) dL_isPrinted_60 ⟨Nat.le_of_ble_eq_true rfl, Nat.le_of_ble_eq_true rfl⟩) (fun r154 h155 => ?_)
        obtain rfl : r154 = nI (S 11 2) := h155.trans (pq_co8)
        refine lv_istore (lv' := [(6, .int (nI (S 11 2))), (5, .int (nI (S 10 2))), (4, .int (nI (S 10 1))), (3, .int (nI 0)), (0, .ref (L 0 0)), (1, .int (nI f)), (2, .int (nI 2))]) hx hb dL_isPrinted_63 hl (by decide) rfl (fun ls hl => ?_)
        refine lv_aload_n hx hb dL_isPrinted_65 rfl (lv_at hl 4 rfl) ?_
        refine lv_iload_n hx hb dL_isPrinted_66 rfl (lv_at hl 5 rfl) ?_
        refine lv_iload_n hx hb dL_isPrinted_67 rfl (lv_at hl 6 rfl) ?_
        refine va_calli (va_runV (As := [.int (nI f), .int (nI 2)]) (rest := []) ⟨hx, hb, hml, hown, hts⟩ (k_X3_print l D y L S Bs pi kn Gs sv U (fun i => Bs (pi i)) Gs (nI f) (nI 2) (pq_CI hC) hI.1) (cwV 2 hts gL_isPrinted_X3_print rfl rfl rfl hd_X3_print ⟨Nat.le_of_ble_eq_true rfl, Nat.le_of_ble_eq_true rfl⟩) ⟨pm_wr_blind, va_recv hK hP (ci := 3) (q0 := 0) rfl rfl, pm_wr_pre hP hK hD⟩ rfl rfl hl.1 rfl (lv_room (Nat.le_of_ble_eq_true rfl)) dL_isPrinted_68 ⟨Nat.le_of_ble_eq_true rfl, Nat.le_of_ble_eq_true rfl⟩) hS (fun q _ h9 => pm_ad_all hD q h9) (pm_ad_all hD) (fun r156 u161 t157 H1 locs ht158 _ h162 hB159 _ hk160 hS => ?_)
        have hB159 : va_P D vwCl (pm_cl y L S (pm_ub Bs (pi kn) S) (pm_rp pi kn (-5)) (pm_rk kn (-5)) Gs sv U) H1 := by have h8 : va_P D vwCl (pm_cl y L (pm_aPrint S (nI f) (nI 2)).2 (pm_ub Bs (pi kn) S) (pm_rp pi kn (pm_aPrint S (nI f) (nI 2)).1) (pm_rk kn (pm_aPrint S (nI f) (nI 2)).1) Gs sv U) t157.heap := hB159; rw [E] at h8; rw [← ht158]; exact h8
        obtain rfl : r156 = -5 := h162.trans (by rw [E])
        obtain ⟨hP, hD⟩ := pm_all (D := D) (cl := vwCl) (H1 := H1) hD (w' := pm_cl y L S (pm_ub Bs (pi kn) S) (pm_rp pi kn (-5)) (pm_rk kn (-5)) Gs sv U) hB159 (pm_cl_fst ..)
        have hC163 := pq_C_r hC (-5)
        generalize pm_ub Bs (pi kn) S = Bs164 at hP hD
        generalize pm_rp pi kn (-5) = pi165 at hP hD hC163
        generalize pm_rk kn (-5) = kn166 at hP hD hC163
        generalize H1 = H at hP hS ⊢
        have hP : va_P D vwCl (pm_cl y L S Bs164 pi165 kn166 Gs sv U) H := hP
        have hD : va_D (pm_ad (pm_cl y L S Bs pi kn Gs sv U)) (pm_cl y L S Bs164 pi165 kn166 Gs sv U) := hD
        refine lv_istore (lv' := [(7, .int (-5)), (6, .int (nI (S 11 2))), (5, .int (nI (S 10 2))), (4, .int (nI (S 10 1))), (3, .int (nI 0)), (0, .ref (L 0 0)), (1, .int (nI f)), (2, .int (nI 2))]) hx hb dL_isPrinted_71 hl (by decide) rfl (fun ls hl => ?_)
        refine lv_iload_n hx hb dL_isPrinted_73 rfl (lv_at hl 4 rfl) ?_
        refine lv_if_ne (tgt := 100) hx hb dL_isPrinted_74 (by decide) (fun c167 => (c167 (by decide)).elim) (fun _ => ?_)
        refine lv_iload hx hb dL_isPrinted_77 (lv_at hl 0 rfl) ?_
        refine lv_bipush (v := (-5)) hx hb dL_isPrinted_79 (by decide) ?_
        refine lv_icmp_ne (tgt := 98) hx hb dL_isPrinted_81 (by decide) (fun c168 => (c168 (by decide)).elim) (fun _ => ?_)
        refine lv_aload_n hx hb dL_isPrinted_84 rfl (lv_at hl 5 rfl) ?_
        refine lv_iconst (v := nI 5) hx hb dL_isPrinted_85 (by decide) ?_
        refine vp_callSi (W.runV (As := [.int (nI 5)]) (rest := []) ⟨hx, hb, hml, hown, hts⟩ (k_X3_count l D y L S Bs164 pi165 kn166 Gs sv U Bs Gs (nI 5) hI.1) (cwV 1 hts gL_isPrinted_X3_count rfl rfl rfl hd_X3_count ⟨Nat.le_of_ble_eq_true rfl, Nat.le_of_ble_eq_true rfl⟩) ⟨pm_ron_blind, va_recv hK hP (ci := 3) (q0 := 0) rfl rfl, pm_ron_pre hP hK hN⟩ rfl rfl hl.1 rfl (lv_room (Nat.le_of_ble_eq_true rfl)) dL_isPrinted_86 ⟨Nat.le_of_ble_eq_true rfl, Nat.le_of_ble_eq_true rfl⟩) (fun r169 h170 => ?_)
        obtain rfl : r169 = nI (S 10 1) := h170.trans (pq_co5)
        have := hI.1.pap
        refine lv_iload hx hb dL_isPrinted_89 (lv_at hl 3 rfl) ?_
        refine kx_icmp_ne (tgt := 98) hx hb (by omega) (by omega) dL_isPrinted_91 (by decide) (fun c171 => by exfalso; omega) (fun c171 => ?_)
        refine lv_iconst (v := nI 1) hx hb dL_isPrinted_94 (by decide) ?_
        refine lv_goto (tgt := 99) hx hb dL_isPrinted_95 (by decide) ?_
        exact W.zret (ty := .boolean) hx hb hr rfl (fun t ht _ => ⟨⟨_, (S, Bs164, pi165, kn166), rfl, ⟨rfl, hI, hC163⟩, (by show va_P D vwCl (pm_cl y L S Bs164 pi165 kn166 Gs sv U) t.heap; rw [ht]; exact hP)⟩, hS.F ht⟩) hS.2.2 dL_isPrinted_99
      · skip
        refine lv_iload_n hx hb dL_isPrinted_10 rfl (lv_at hl 2 rfl) ?_
        refine lv_aload_n hx hb dL_isPrinted_11 rfl (lv_at hl 0 rfl) ?_
        refine lv_iload_n hx hb dL_isPrinted_12 rfl (lv_at hl 1 rfl) ?_
        refine lv_iconst (v := nI 4) hx hb dL_isPrinted_13 (by decide) ?_
        refine vp_callSi (W.runV (As := [.int (nI f), .int (nI 4)]) (rest := [.int (nI 2)]) ⟨hx, hb, hml, hown, hts⟩ (k_X3_of l D y L S Bs pi kn Gs sv U Bs Gs (nI f) (nI 4) hI.1) (cwV 2 hts gL_isPrinted_X3_of rfl rfl rfl hd_X3_of ⟨Nat.le_of_ble_eq_true rfl, Nat.le_of_ble_eq_true rfl⟩) ⟨pm_ro_blind, va_recv hK hP (ci := 3) (q0 := 0) rfl rfl, pm_ro_pre hP hK⟩ rfl rfl hl.1 rfl (lv_room (Nat.le_of_ble_eq_true rfl)) dL_isPrinted_14 ⟨Nat.le_of_ble_eq_true rfl, Nat.le_of_ble_eq_true rfl⟩) (fun r172 h173 => ?_)
        obtain rfl : r172 = nI (S 2 f) := h173.trans (pq_of4 (by omega))
        have := hI.1.size f (by omega)
        refine kx_icmp_gt (tgt := 38) hx hb (by decide) (by omega) dL_isPrinted_17 (by decide) (fun c174 => ?_) (fun c174 => ?_)
        · skip
          refine lv_iconst (v := nI 0) hx hb dL_isPrinted_38 (by decide) ?_
          refine lv_istore_n (lv' := [(3, .int (nI 0)), (0, .ref (L 0 0)), (1, .int (nI f)), (2, .int (nI 2))]) hx hb dL_isPrinted_39 rfl hl (by decide) rfl (fun ls hl => ?_)
          refine lv_aload_n hx hb dL_isPrinted_40 rfl (lv_at hl 1 rfl) ?_
          refine lv_iconst (v := nI 5) hx hb dL_isPrinted_41 (by decide) ?_
          refine vp_callSi (W.runV (As := [.int (nI 5)]) (rest := []) ⟨hx, hb, hml, hown, hts⟩ (k_X3_count l D y L S Bs pi kn Gs sv U Bs Gs (nI 5) hI.1) (cwV 1 hts gL_isPrinted_X3_count rfl rfl rfl hd_X3_count ⟨Nat.le_of_ble_eq_true rfl, Nat.le_of_ble_eq_true rfl⟩) ⟨pm_ron_blind, va_recv hK hP (ci := 3) (q0 := 0) rfl rfl, pm_ron_pre hP hK hN⟩ rfl rfl hl.1 rfl (lv_room (Nat.le_of_ble_eq_true rfl)) dL_isPrinted_42 ⟨Nat.le_of_ble_eq_true rfl, Nat.le_of_ble_eq_true rfl⟩) (fun r175 h176 => ?_)
          obtain rfl : r175 = nI (S 10 1) := h176.trans (pq_co5)
          have := hI.1.pap
          refine lv_istore (lv' := [(4, .int (nI (S 10 1))), (3, .int (nI 0)), (0, .ref (L 0 0)), (1, .int (nI f)), (2, .int (nI 2))]) hx hb dL_isPrinted_45 hl (by decide) rfl (fun ls hl => ?_)
          refine lv_aload_n hx hb dL_isPrinted_47 rfl (lv_at hl 2 rfl) ?_
          refine lv_bipush (v := nI 6) hx hb dL_isPrinted_48 (by decide) ?_
          refine vp_callSi (W.runV (As := [.int (nI 6)]) (rest := []) ⟨hx, hb, hml, hown, hts⟩ (k_X3_count l D y L S Bs pi kn Gs sv U Bs Gs (nI 6) hI.1) (cwV 1 hts gL_isPrinted_X3_count rfl rfl rfl hd_X3_count ⟨Nat.le_of_ble_eq_true rfl, Nat.le_of_ble_eq_true rfl⟩) ⟨pm_ron_blind, va_recv hK hP (ci := 3) (q0 := 0) rfl rfl, pm_ron_pre hP hK hN⟩ rfl rfl hl.1 rfl (lv_room (Nat.le_of_ble_eq_true rfl)) dL_isPrinted_50 ⟨Nat.le_of_ble_eq_true rfl, Nat.le_of_ble_eq_true rfl⟩) (fun r177 h178 => ?_)
          obtain rfl : r177 = nI (S 10 2) := h178.trans (pq_co6)
          refine lv_istore (lv' := [(5, .int (nI (S 10 2))), (4, .int (nI (S 10 1))), (3, .int (nI 0)), (0, .ref (L 0 0)), (1, .int (nI f)), (2, .int (nI 2))]) hx hb dL_isPrinted_53 hl (by decide) rfl (fun ls hl => ?_)
          refine lv_aload_n hx hb dL_isPrinted_55 rfl (lv_at hl 3 rfl) ?_
          refine lv_bipush (v := nI 6) hx hb dL_isPrinted_56 (by decide) ?_
          refine lv_iload_n hx hb dL_isPrinted_58 rfl (lv_at hl 5 rfl) ?_
          refine kx_iadd hx hb dL_isPrinted_59 ?_
          refine lv_topi (fun x179 e180 => ?_)
          obtain rfl : x179 = nI 8 := e180.trans (rfl)
          refine vp_callSi (W.runV (As := [.int (nI 8)]) (rest := []) ⟨hx, hb, hml, hown, hts⟩ (k_X3_count l D y L S Bs pi kn Gs sv U Bs Gs (nI 8) hI.1) (cwV 1 hts gL_isPrinted_X3_count rfl rfl rfl hd_X3_count ⟨Nat.le_of_ble_eq_true rfl, Nat.le_of_ble_eq_true rfl⟩) ⟨pm_ron_blind, va_recv hK hP (ci := 3) (q0 := 0) rfl rfl, pm_ron_pre hP hK hN⟩ rfl rfl hl.1 rfl (lv_room (Nat.le_of_ble_eq_true rfl)) dL_isPrinted_60 ⟨Nat.le_of_ble_eq_true rfl, Nat.le_of_ble_eq_true rfl⟩) (fun r181 h182 => ?_)
          obtain rfl : r181 = nI (S 11 2) := h182.trans (pq_co8)
          refine lv_istore (lv' := [(6, .int (nI (S 11 2))), (5, .int (nI (S 10 2))), (4, .int (nI (S 10 1))), (3, .int (nI 0)), (0, .ref (L 0 0)), (1, .int (nI f)), (2, .int (nI 2))]) hx hb dL_isPrinted_63 hl (by decide) rfl (fun ls hl => ?_)
          refine lv_aload_n hx hb dL_isPrinted_65 rfl (lv_at hl 4 rfl) ?_
          refine lv_iload_n hx hb dL_isPrinted_66 rfl (lv_at hl 5 rfl) ?_
          refine lv_iload_n hx hb dL_isPrinted_67 rfl (lv_at hl 6 rfl) ?_
          refine va_calli (va_runV (As := [.int (nI f), .int (nI 2)]) (rest := []) ⟨hx, hb, hml, hown, hts⟩ (k_X3_print l D y L S Bs pi kn Gs sv U (fun i => Bs (pi i)) Gs (nI f) (nI 2) (pq_CI hC) hI.1) (cwV 2 hts gL_isPrinted_X3_print rfl rfl rfl hd_X3_print ⟨Nat.le_of_ble_eq_true rfl, Nat.le_of_ble_eq_true rfl⟩) ⟨pm_wr_blind, va_recv hK hP (ci := 3) (q0 := 0) rfl rfl, pm_wr_pre hP hK hD⟩ rfl rfl hl.1 rfl (lv_room (Nat.le_of_ble_eq_true rfl)) dL_isPrinted_68 ⟨Nat.le_of_ble_eq_true rfl, Nat.le_of_ble_eq_true rfl⟩) hS (fun q _ h9 => pm_ad_all hD q h9) (pm_ad_all hD) (fun r183 u188 t184 H1 locs ht185 _ h189 hB186 _ hk187 hS => ?_)
          have hB186 : va_P D vwCl (pm_cl y L S (pm_ub Bs (pi kn) S) (pm_rp pi kn (-5)) (pm_rk kn (-5)) Gs sv U) H1 := by have h8 : va_P D vwCl (pm_cl y L (pm_aPrint S (nI f) (nI 2)).2 (pm_ub Bs (pi kn) S) (pm_rp pi kn (pm_aPrint S (nI f) (nI 2)).1) (pm_rk kn (pm_aPrint S (nI f) (nI 2)).1) Gs sv U) t184.heap := hB186; rw [E] at h8; rw [← ht185]; exact h8
          obtain rfl : r183 = -5 := h189.trans (by rw [E])
          obtain ⟨hP, hD⟩ := pm_all (D := D) (cl := vwCl) (H1 := H1) hD (w' := pm_cl y L S (pm_ub Bs (pi kn) S) (pm_rp pi kn (-5)) (pm_rk kn (-5)) Gs sv U) hB186 (pm_cl_fst ..)
          have hC190 := pq_C_r hC (-5)
          generalize pm_ub Bs (pi kn) S = Bs191 at hP hD
          generalize pm_rp pi kn (-5) = pi192 at hP hD hC190
          generalize pm_rk kn (-5) = kn193 at hP hD hC190
          generalize H1 = H at hP hS ⊢
          have hP : va_P D vwCl (pm_cl y L S Bs191 pi192 kn193 Gs sv U) H := hP
          have hD : va_D (pm_ad (pm_cl y L S Bs pi kn Gs sv U)) (pm_cl y L S Bs191 pi192 kn193 Gs sv U) := hD
          refine lv_istore (lv' := [(7, .int (-5)), (6, .int (nI (S 11 2))), (5, .int (nI (S 10 2))), (4, .int (nI (S 10 1))), (3, .int (nI 0)), (0, .ref (L 0 0)), (1, .int (nI f)), (2, .int (nI 2))]) hx hb dL_isPrinted_71 hl (by decide) rfl (fun ls hl => ?_)
          refine lv_iload_n hx hb dL_isPrinted_73 rfl (lv_at hl 4 rfl) ?_
          refine lv_if_ne (tgt := 100) hx hb dL_isPrinted_74 (by decide) (fun c194 => (c194 (by decide)).elim) (fun _ => ?_)
          refine lv_iload hx hb dL_isPrinted_77 (lv_at hl 0 rfl) ?_
          refine lv_bipush (v := (-5)) hx hb dL_isPrinted_79 (by decide) ?_
          refine lv_icmp_ne (tgt := 98) hx hb dL_isPrinted_81 (by decide) (fun c195 => (c195 (by decide)).elim) (fun _ => ?_)
          refine lv_aload_n hx hb dL_isPrinted_84 rfl (lv_at hl 5 rfl) ?_
          refine lv_iconst (v := nI 5) hx hb dL_isPrinted_85 (by decide) ?_
          refine vp_callSi (W.runV (As := [.int (nI 5)]) (rest := []) ⟨hx, hb, hml, hown, hts⟩ (k_X3_count l D y L S Bs191 pi192 kn193 Gs sv U Bs Gs (nI 5) hI.1) (cwV 1 hts gL_isPrinted_X3_count rfl rfl rfl hd_X3_count ⟨Nat.le_of_ble_eq_true rfl, Nat.le_of_ble_eq_true rfl⟩) ⟨pm_ron_blind, va_recv hK hP (ci := 3) (q0 := 0) rfl rfl, pm_ron_pre hP hK hN⟩ rfl rfl hl.1 rfl (lv_room (Nat.le_of_ble_eq_true rfl)) dL_isPrinted_86 ⟨Nat.le_of_ble_eq_true rfl, Nat.le_of_ble_eq_true rfl⟩) (fun r196 h197 => ?_)
          obtain rfl : r196 = nI (S 10 1) := h197.trans (pq_co5)
          have := hI.1.pap
          refine lv_iload hx hb dL_isPrinted_89 (lv_at hl 3 rfl) ?_
          refine kx_icmp_ne (tgt := 98) hx hb (by omega) (by omega) dL_isPrinted_91 (by decide) (fun c198 => by exfalso; omega) (fun c198 => ?_)
          refine lv_iconst (v := nI 1) hx hb dL_isPrinted_94 (by decide) ?_
          refine lv_goto (tgt := 99) hx hb dL_isPrinted_95 (by decide) ?_
          exact W.zret (ty := .boolean) hx hb hr rfl (fun t ht _ => ⟨⟨_, (S, Bs191, pi192, kn193), rfl, ⟨rfl, hI, hC190⟩, (by show va_P D vwCl (pm_cl y L S Bs191 pi192 kn193 Gs sv U) t.heap; rw [ht]; exact hP)⟩, hS.F ht⟩) hS.2.2 dL_isPrinted_99
        · skip
          refine lv_bipush (v := nI 10) hx hb dL_isPrinted_20 (by decide) ?_
          refine lv_iload_n hx hb dL_isPrinted_22 rfl (lv_at hl 2 rfl) ?_
          refine kx_imul hx hb dL_isPrinted_23 ?_
          refine lv_topi (fun x199 e200 => ?_)
          obtain rfl : x199 = nI 20 := e200.trans (rfl)
          refine lv_iload_n hx hb dL_isPrinted_24 rfl (lv_at hl 2 rfl) ?_
          refine kx_imul hx hb dL_isPrinted_25 ?_
          refine lv_topi (fun x201 e202 => ?_)
          obtain rfl : x201 = nI 40 := e202.trans (rfl)
          refine lv_aload_n hx hb dL_isPrinted_26 rfl (lv_at hl 0 rfl) ?_
          refine lv_iconst (v := nI 5) hx hb dL_isPrinted_27 (by decide) ?_
          refine vp_callSi (W.runV (As := [.int (nI 5)]) (rest := [.int (nI 40)]) ⟨hx, hb, hml, hown, hts⟩ (k_X3_count l D y L S Bs pi kn Gs sv U Bs Gs (nI 5) hI.1) (cwV 1 hts gL_isPrinted_X3_count rfl rfl rfl hd_X3_count ⟨Nat.le_of_ble_eq_true rfl, Nat.le_of_ble_eq_true rfl⟩) ⟨pm_ron_blind, va_recv hK hP (ci := 3) (q0 := 0) rfl rfl, pm_ron_pre hP hK hN⟩ rfl rfl hl.1 rfl (lv_room (Nat.le_of_ble_eq_true rfl)) dL_isPrinted_28 ⟨Nat.le_of_ble_eq_true rfl, Nat.le_of_ble_eq_true rfl⟩) (fun r203 h204 => ?_)
          obtain rfl : r203 = nI (S 10 1) := h204.trans (pq_co5)
          have := hI.1.pap
          refine kx_icmp_gt (tgt := 38) hx hb (by decide) (by omega) dL_isPrinted_31 (by decide) (fun c205 => ?_) (fun c205 => by exfalso; omega)
          refine lv_iconst (v := nI 0) hx hb dL_isPrinted_38 (by decide) ?_
          refine lv_istore_n (lv' := [(3, .int (nI 0)), (0, .ref (L 0 0)), (1, .int (nI f)), (2, .int (nI 2))]) hx hb dL_isPrinted_39 rfl hl (by decide) rfl (fun ls hl => ?_)
          refine lv_aload_n hx hb dL_isPrinted_40 rfl (lv_at hl 1 rfl) ?_
          refine lv_iconst (v := nI 5) hx hb dL_isPrinted_41 (by decide) ?_
          refine vp_callSi (W.runV (As := [.int (nI 5)]) (rest := []) ⟨hx, hb, hml, hown, hts⟩ (k_X3_count l D y L S Bs pi kn Gs sv U Bs Gs (nI 5) hI.1) (cwV 1 hts gL_isPrinted_X3_count rfl rfl rfl hd_X3_count ⟨Nat.le_of_ble_eq_true rfl, Nat.le_of_ble_eq_true rfl⟩) ⟨pm_ron_blind, va_recv hK hP (ci := 3) (q0 := 0) rfl rfl, pm_ron_pre hP hK hN⟩ rfl rfl hl.1 rfl (lv_room (Nat.le_of_ble_eq_true rfl)) dL_isPrinted_42 ⟨Nat.le_of_ble_eq_true rfl, Nat.le_of_ble_eq_true rfl⟩) (fun r206 h207 => ?_)
          obtain rfl : r206 = nI (S 10 1) := h207.trans (pq_co5)
          have := hI.1.pap
          refine lv_istore (lv' := [(4, .int (nI (S 10 1))), (3, .int (nI 0)), (0, .ref (L 0 0)), (1, .int (nI f)), (2, .int (nI 2))]) hx hb dL_isPrinted_45 hl (by decide) rfl (fun ls hl => ?_)
          refine lv_aload_n hx hb dL_isPrinted_47 rfl (lv_at hl 2 rfl) ?_
          refine lv_bipush (v := nI 6) hx hb dL_isPrinted_48 (by decide) ?_
          refine vp_callSi (W.runV (As := [.int (nI 6)]) (rest := []) ⟨hx, hb, hml, hown, hts⟩ (k_X3_count l D y L S Bs pi kn Gs sv U Bs Gs (nI 6) hI.1) (cwV 1 hts gL_isPrinted_X3_count rfl rfl rfl hd_X3_count ⟨Nat.le_of_ble_eq_true rfl, Nat.le_of_ble_eq_true rfl⟩) ⟨pm_ron_blind, va_recv hK hP (ci := 3) (q0 := 0) rfl rfl, pm_ron_pre hP hK hN⟩ rfl rfl hl.1 rfl (lv_room (Nat.le_of_ble_eq_true rfl)) dL_isPrinted_50 ⟨Nat.le_of_ble_eq_true rfl, Nat.le_of_ble_eq_true rfl⟩) (fun r208 h209 => ?_)
          obtain rfl : r208 = nI (S 10 2) := h209.trans (pq_co6)
          refine lv_istore (lv' := [(5, .int (nI (S 10 2))), (4, .int (nI (S 10 1))), (3, .int (nI 0)), (0, .ref (L 0 0)), (1, .int (nI f)), (2, .int (nI 2))]) hx hb dL_isPrinted_53 hl (by decide) rfl (fun ls hl => ?_)
          refine lv_aload_n hx hb dL_isPrinted_55 rfl (lv_at hl 3 rfl) ?_
          refine lv_bipush (v := nI 6) hx hb dL_isPrinted_56 (by decide) ?_
          refine lv_iload_n hx hb dL_isPrinted_58 rfl (lv_at hl 5 rfl) ?_
          refine kx_iadd hx hb dL_isPrinted_59 ?_
          refine lv_topi (fun x210 e211 => ?_)
          obtain rfl : x210 = nI 8 := e211.trans (rfl)
          refine vp_callSi (W.runV (As := [.int (nI 8)]) (rest := []) ⟨hx, hb, hml, hown, hts⟩ (k_X3_count l D y L S Bs pi kn Gs sv U Bs Gs (nI 8) hI.1) (cwV 1 hts gL_isPrinted_X3_count rfl rfl rfl hd_X3_count ⟨Nat.le_of_ble_eq_true rfl, Nat.le_of_ble_eq_true rfl⟩) ⟨pm_ron_blind, va_recv hK hP (ci := 3) (q0 := 0) rfl rfl, pm_ron_pre hP hK hN⟩ rfl rfl hl.1 rfl (lv_room (Nat.le_of_ble_eq_true rfl)) dL_isPrinted_60 ⟨Nat.le_of_ble_eq_true rfl, Nat.le_of_ble_eq_true rfl⟩) (fun r212 h213 => ?_)
          obtain rfl : r212 = nI (S 11 2) := h213.trans (pq_co8)
          refine lv_istore (lv' := [(6, .int (nI (S 11 2))), (5, .int (nI (S 10 2))), (4, .int (nI (S 10 1))), (3, .int (nI 0)), (0, .ref (L 0 0)), (1, .int (nI f)), (2, .int (nI 2))]) hx hb dL_isPrinted_63 hl (by decide) rfl (fun ls hl => ?_)
          refine lv_aload_n hx hb dL_isPrinted_65 rfl (lv_at hl 4 rfl) ?_
          refine lv_iload_n hx hb dL_isPrinted_66 rfl (lv_at hl 5 rfl) ?_
          refine lv_iload_n hx hb dL_isPrinted_67 rfl (lv_at hl 6 rfl) ?_
          refine va_calli (va_runV (As := [.int (nI f), .int (nI 2)]) (rest := []) ⟨hx, hb, hml, hown, hts⟩ (k_X3_print l D y L S Bs pi kn Gs sv U (fun i => Bs (pi i)) Gs (nI f) (nI 2) (pq_CI hC) hI.1) (cwV 2 hts gL_isPrinted_X3_print rfl rfl rfl hd_X3_print ⟨Nat.le_of_ble_eq_true rfl, Nat.le_of_ble_eq_true rfl⟩) ⟨pm_wr_blind, va_recv hK hP (ci := 3) (q0 := 0) rfl rfl, pm_wr_pre hP hK hD⟩ rfl rfl hl.1 rfl (lv_room (Nat.le_of_ble_eq_true rfl)) dL_isPrinted_68 ⟨Nat.le_of_ble_eq_true rfl, Nat.le_of_ble_eq_true rfl⟩) hS (fun q _ h9 => pm_ad_all hD q h9) (pm_ad_all hD) (fun r214 u219 t215 H1 locs ht216 _ h220 hB217 _ hk218 hS => ?_)
          have hB217 : va_P D vwCl (pm_cl y L S (pm_ub Bs (pi kn) S) (pm_rp pi kn (-5)) (pm_rk kn (-5)) Gs sv U) H1 := by have h8 : va_P D vwCl (pm_cl y L (pm_aPrint S (nI f) (nI 2)).2 (pm_ub Bs (pi kn) S) (pm_rp pi kn (pm_aPrint S (nI f) (nI 2)).1) (pm_rk kn (pm_aPrint S (nI f) (nI 2)).1) Gs sv U) t215.heap := hB217; rw [E] at h8; rw [← ht216]; exact h8
          obtain rfl : r214 = -5 := h220.trans (by rw [E])
          obtain ⟨hP, hD⟩ := pm_all (D := D) (cl := vwCl) (H1 := H1) hD (w' := pm_cl y L S (pm_ub Bs (pi kn) S) (pm_rp pi kn (-5)) (pm_rk kn (-5)) Gs sv U) hB217 (pm_cl_fst ..)
          have hC221 := pq_C_r hC (-5)
          generalize pm_ub Bs (pi kn) S = Bs222 at hP hD
          generalize pm_rp pi kn (-5) = pi223 at hP hD hC221
          generalize pm_rk kn (-5) = kn224 at hP hD hC221
          generalize H1 = H at hP hS ⊢
          have hP : va_P D vwCl (pm_cl y L S Bs222 pi223 kn224 Gs sv U) H := hP
          have hD : va_D (pm_ad (pm_cl y L S Bs pi kn Gs sv U)) (pm_cl y L S Bs222 pi223 kn224 Gs sv U) := hD
          refine lv_istore (lv' := [(7, .int (-5)), (6, .int (nI (S 11 2))), (5, .int (nI (S 10 2))), (4, .int (nI (S 10 1))), (3, .int (nI 0)), (0, .ref (L 0 0)), (1, .int (nI f)), (2, .int (nI 2))]) hx hb dL_isPrinted_71 hl (by decide) rfl (fun ls hl => ?_)
          refine lv_iload_n hx hb dL_isPrinted_73 rfl (lv_at hl 4 rfl) ?_
          refine lv_if_ne (tgt := 100) hx hb dL_isPrinted_74 (by decide) (fun c225 => (c225 (by decide)).elim) (fun _ => ?_)
          refine lv_iload hx hb dL_isPrinted_77 (lv_at hl 0 rfl) ?_
          refine lv_bipush (v := (-5)) hx hb dL_isPrinted_79 (by decide) ?_
          refine lv_icmp_ne (tgt := 98) hx hb dL_isPrinted_81 (by decide) (fun c226 => (c226 (by decide)).elim) (fun _ => ?_)
          refine lv_aload_n hx hb dL_isPrinted_84 rfl (lv_at hl 5 rfl) ?_
          refine lv_iconst (v := nI 5) hx hb dL_isPrinted_85 (by decide) ?_
          refine vp_callSi (W.runV (As := [.int (nI 5)]) (rest := []) ⟨hx, hb, hml, hown, hts⟩ (k_X3_count l D y L S Bs222 pi223 kn224 Gs sv U Bs Gs (nI 5) hI.1) (cwV 1 hts gL_isPrinted_X3_count rfl rfl rfl hd_X3_count ⟨Nat.le_of_ble_eq_true rfl, Nat.le_of_ble_eq_true rfl⟩) ⟨pm_ron_blind, va_recv hK hP (ci := 3) (q0 := 0) rfl rfl, pm_ron_pre hP hK hN⟩ rfl rfl hl.1 rfl (lv_room (Nat.le_of_ble_eq_true rfl)) dL_isPrinted_86 ⟨Nat.le_of_ble_eq_true rfl, Nat.le_of_ble_eq_true rfl⟩) (fun r227 h228 => ?_)
          obtain rfl : r227 = nI (S 10 1) := h228.trans (pq_co5)
          have := hI.1.pap
          refine lv_iload hx hb dL_isPrinted_89 (lv_at hl 3 rfl) ?_
          refine kx_icmp_ne (tgt := 98) hx hb (by omega) (by omega) dL_isPrinted_91 (by decide) (fun c229 => by exfalso; omega) (fun c229 => ?_)
          refine lv_iconst (v := nI 1) hx hb dL_isPrinted_94 (by decide) ?_
          refine lv_goto (tgt := 99) hx hb dL_isPrinted_95 (by decide) ?_
          exact W.zret (ty := .boolean) hx hb hr rfl (fun t ht _ => ⟨⟨_, (S, Bs222, pi223, kn224), rfl, ⟨rfl, hI, hC221⟩, (by show va_P D vwCl (pm_cl y L S Bs222 pi223 kn224 Gs sv U) t.heap; rw [ht]; exact hP)⟩, hS.F ht⟩) hS.2.2 dL_isPrinted_99
    · have hIT : pq_I T := by have h8 := pq_print hI (nI f) (nI 2); rw [E] at h8; exact h8
      refine lv_aload_n hx hb dL_isPrinted_0 rfl (lv_at hl 0 rfl) ?_
      refine lv_iload_n hx hb dL_isPrinted_1 rfl (lv_at hl 1 rfl) ?_
      refine lv_iconst (v := nI 0) hx hb dL_isPrinted_2 (by decide) ?_
      refine vp_callSi (W.runV (As := [.int (nI f), .int (nI 0)]) (rest := []) ⟨hx, hb, hml, hown, hts⟩ (k_X3_of l D y L S Bs pi kn Gs sv U Bs Gs (nI f) (nI 0) hI.1) (cwV 2 hts gL_isPrinted_X3_of rfl rfl rfl hd_X3_of ⟨Nat.le_of_ble_eq_true rfl, Nat.le_of_ble_eq_true rfl⟩) ⟨pm_ro_blind, va_recv hK hP (ci := 3) (q0 := 0) rfl rfl, pm_ro_pre hP hK⟩ rfl rfl hl.1 rfl (lv_room (Nat.le_of_ble_eq_true rfl)) dL_isPrinted_3 ⟨Nat.le_of_ble_eq_true rfl, Nat.le_of_ble_eq_true rfl⟩) (fun r230 h231 => ?_)
      obtain rfl : r230 = nI (S 0 f) := h231.trans (pq_of0 (by omega))
      have := hI.1.how f (by omega)
      refine lv_iconst (v := nI 1) hx hb dL_isPrinted_6 (by decide) ?_
      refine kx_icmp_ne (tgt := 38) hx hb (by omega) (by decide) dL_isPrinted_7 (by decide) (fun c232 => by exfalso; omega) (fun c232 => ?_)
      refine lv_iload_n hx hb dL_isPrinted_10 rfl (lv_at hl 2 rfl) ?_
      refine lv_aload_n hx hb dL_isPrinted_11 rfl (lv_at hl 0 rfl) ?_
      refine lv_iload_n hx hb dL_isPrinted_12 rfl (lv_at hl 1 rfl) ?_
      refine lv_iconst (v := nI 4) hx hb dL_isPrinted_13 (by decide) ?_
      refine vp_callSi (W.runV (As := [.int (nI f), .int (nI 4)]) (rest := [.int (nI 2)]) ⟨hx, hb, hml, hown, hts⟩ (k_X3_of l D y L S Bs pi kn Gs sv U Bs Gs (nI f) (nI 4) hI.1) (cwV 2 hts gL_isPrinted_X3_of rfl rfl rfl hd_X3_of ⟨Nat.le_of_ble_eq_true rfl, Nat.le_of_ble_eq_true rfl⟩) ⟨pm_ro_blind, va_recv hK hP (ci := 3) (q0 := 0) rfl rfl, pm_ro_pre hP hK⟩ rfl rfl hl.1 rfl (lv_room (Nat.le_of_ble_eq_true rfl)) dL_isPrinted_14 ⟨Nat.le_of_ble_eq_true rfl, Nat.le_of_ble_eq_true rfl⟩) (fun r233 h234 => ?_)
      obtain rfl : r233 = nI (S 2 f) := h234.trans (pq_of4 (by omega))
      have := hI.1.size f (by omega)
      refine kx_icmp_gt (tgt := 38) hx hb (by decide) (by omega) dL_isPrinted_17 (by decide) (fun c235 => by exfalso; omega) (fun c235 => ?_)
      refine lv_bipush (v := nI 10) hx hb dL_isPrinted_20 (by decide) ?_
      refine lv_iload_n hx hb dL_isPrinted_22 rfl (lv_at hl 2 rfl) ?_
      refine kx_imul hx hb dL_isPrinted_23 ?_
      refine lv_topi (fun x236 e237 => ?_)
      obtain rfl : x236 = nI 20 := e237.trans (rfl)
      refine lv_iload_n hx hb dL_isPrinted_24 rfl (lv_at hl 2 rfl) ?_
      refine kx_imul hx hb dL_isPrinted_25 ?_
      refine lv_topi (fun x238 e239 => ?_)
      obtain rfl : x238 = nI 40 := e239.trans (rfl)
      refine lv_aload_n hx hb dL_isPrinted_26 rfl (lv_at hl 0 rfl) ?_
      refine lv_iconst (v := nI 5) hx hb dL_isPrinted_27 (by decide) ?_
      refine vp_callSi (W.runV (As := [.int (nI 5)]) (rest := [.int (nI 40)]) ⟨hx, hb, hml, hown, hts⟩ (k_X3_count l D y L S Bs pi kn Gs sv U Bs Gs (nI 5) hI.1) (cwV 1 hts gL_isPrinted_X3_count rfl rfl rfl hd_X3_count ⟨Nat.le_of_ble_eq_true rfl, Nat.le_of_ble_eq_true rfl⟩) ⟨pm_ron_blind, va_recv hK hP (ci := 3) (q0 := 0) rfl rfl, pm_ron_pre hP hK hN⟩ rfl rfl hl.1 rfl (lv_room (Nat.le_of_ble_eq_true rfl)) dL_isPrinted_28 ⟨Nat.le_of_ble_eq_true rfl, Nat.le_of_ble_eq_true rfl⟩) (fun r240 h241 => ?_)
      obtain rfl : r240 = nI (S 10 1) := h241.trans (pq_co5)
      have := hI.1.pap
      refine kx_icmp_gt (tgt := 38) hx hb (by decide) (by omega) dL_isPrinted_31 (by decide) (fun c242 => by exfalso; omega) (fun c242 => ?_)
      refine lv_iconst (v := nI 1) hx hb dL_isPrinted_34 (by decide) ?_
      refine lv_goto (tgt := 39) hx hb dL_isPrinted_35 (by decide) ?_
      refine lv_istore_n (lv' := [(3, .int (nI 1)), (0, .ref (L 0 0)), (1, .int (nI f)), (2, .int (nI 2))]) hx hb dL_isPrinted_39 rfl hl (by decide) rfl (fun ls hl => ?_)
      refine lv_aload_n hx hb dL_isPrinted_40 rfl (lv_at hl 1 rfl) ?_
      refine lv_iconst (v := nI 5) hx hb dL_isPrinted_41 (by decide) ?_
      refine vp_callSi (W.runV (As := [.int (nI 5)]) (rest := []) ⟨hx, hb, hml, hown, hts⟩ (k_X3_count l D y L S Bs pi kn Gs sv U Bs Gs (nI 5) hI.1) (cwV 1 hts gL_isPrinted_X3_count rfl rfl rfl hd_X3_count ⟨Nat.le_of_ble_eq_true rfl, Nat.le_of_ble_eq_true rfl⟩) ⟨pm_ron_blind, va_recv hK hP (ci := 3) (q0 := 0) rfl rfl, pm_ron_pre hP hK hN⟩ rfl rfl hl.1 rfl (lv_room (Nat.le_of_ble_eq_true rfl)) dL_isPrinted_42 ⟨Nat.le_of_ble_eq_true rfl, Nat.le_of_ble_eq_true rfl⟩) (fun r243 h244 => ?_)
      obtain rfl : r243 = nI (S 10 1) := h244.trans (pq_co5)
      have := hI.1.pap
      refine lv_istore (lv' := [(4, .int (nI (S 10 1))), (3, .int (nI 1)), (0, .ref (L 0 0)), (1, .int (nI f)), (2, .int (nI 2))]) hx hb dL_isPrinted_45 hl (by decide) rfl (fun ls hl => ?_)
      refine lv_aload_n hx hb dL_isPrinted_47 rfl (lv_at hl 2 rfl) ?_
      refine lv_bipush (v := nI 6) hx hb dL_isPrinted_48 (by decide) ?_
      refine vp_callSi (W.runV (As := [.int (nI 6)]) (rest := []) ⟨hx, hb, hml, hown, hts⟩ (k_X3_count l D y L S Bs pi kn Gs sv U Bs Gs (nI 6) hI.1) (cwV 1 hts gL_isPrinted_X3_count rfl rfl rfl hd_X3_count ⟨Nat.le_of_ble_eq_true rfl, Nat.le_of_ble_eq_true rfl⟩) ⟨pm_ron_blind, va_recv hK hP (ci := 3) (q0 := 0) rfl rfl, pm_ron_pre hP hK hN⟩ rfl rfl hl.1 rfl (lv_room (Nat.le_of_ble_eq_true rfl)) dL_isPrinted_50 ⟨Nat.le_of_ble_eq_true rfl, Nat.le_of_ble_eq_true rfl⟩) (fun r245 h246 => ?_)
      obtain rfl : r245 = nI (S 10 2) := h246.trans (pq_co6)
      refine lv_istore (lv' := [(5, .int (nI (S 10 2))), (4, .int (nI (S 10 1))), (3, .int (nI 1)), (0, .ref (L 0 0)), (1, .int (nI f)), (2, .int (nI 2))]) hx hb dL_isPrinted_53 hl (by decide) rfl (fun ls hl => ?_)
      refine lv_aload_n hx hb dL_isPrinted_55 rfl (lv_at hl 3 rfl) ?_
      refine lv_bipush (v := nI 6) hx hb dL_isPrinted_56 (by decide) ?_
      refine lv_iload_n hx hb dL_isPrinted_58 rfl (lv_at hl 5 rfl) ?_
      refine kx_iadd hx hb dL_isPrinted_59 ?_
      refine lv_topi (fun x247 e248 => ?_)
      obtain rfl : x247 = nI 8 := e248.trans (rfl)
      refine vp_callSi (W.runV (As := [.int (nI 8)]) (rest := []) ⟨hx, hb, hml, hown, hts⟩ (k_X3_count l D y L S Bs pi kn Gs sv U Bs Gs (nI 8) hI.1) (cwV 1 hts gL_isPrinted_X3_count rfl rfl rfl hd_X3_count ⟨Nat.le_of_ble_eq_true rfl, Nat.le_of_ble_eq_true rfl⟩) ⟨pm_ron_blind, va_recv hK hP (ci := 3) (q0 := 0) rfl rfl, pm_ron_pre hP hK hN⟩ rfl rfl hl.1 rfl (lv_room (Nat.le_of_ble_eq_true rfl)) dL_isPrinted_60 ⟨Nat.le_of_ble_eq_true rfl, Nat.le_of_ble_eq_true rfl⟩) (fun r249 h250 => ?_)
      obtain rfl : r249 = nI (S 11 2) := h250.trans (pq_co8)
      refine lv_istore (lv' := [(6, .int (nI (S 11 2))), (5, .int (nI (S 10 2))), (4, .int (nI (S 10 1))), (3, .int (nI 1)), (0, .ref (L 0 0)), (1, .int (nI f)), (2, .int (nI 2))]) hx hb dL_isPrinted_63 hl (by decide) rfl (fun ls hl => ?_)
      refine lv_aload_n hx hb dL_isPrinted_65 rfl (lv_at hl 4 rfl) ?_
      refine lv_iload_n hx hb dL_isPrinted_66 rfl (lv_at hl 5 rfl) ?_
      refine lv_iload_n hx hb dL_isPrinted_67 rfl (lv_at hl 6 rfl) ?_
      refine va_calli (va_runV (As := [.int (nI f), .int (nI 2)]) (rest := []) ⟨hx, hb, hml, hown, hts⟩ (k_X3_print l D y L S Bs pi kn Gs sv U (fun i => Bs (pi i)) Gs (nI f) (nI 2) (pq_CI hC) hI.1) (cwV 2 hts gL_isPrinted_X3_print rfl rfl rfl hd_X3_print ⟨Nat.le_of_ble_eq_true rfl, Nat.le_of_ble_eq_true rfl⟩) ⟨pm_wr_blind, va_recv hK hP (ci := 3) (q0 := 0) rfl rfl, pm_wr_pre hP hK hD⟩ rfl rfl hl.1 rfl (lv_room (Nat.le_of_ble_eq_true rfl)) dL_isPrinted_68 ⟨Nat.le_of_ble_eq_true rfl, Nat.le_of_ble_eq_true rfl⟩) hS (fun q _ h9 => pm_ad_all hD q h9) (pm_ad_all hD) (fun r251 u256 t252 H1 locs ht253 _ h257 hB254 _ hk255 hS => ?_)
      have hB254 : va_P D vwCl (pm_cl y L T (pm_ub Bs (pi kn) S) (pm_rp pi kn (nI (S 10 1 - 40))) (pm_rk kn (nI (S 10 1 - 40))) Gs sv U) H1 := by have h8 : va_P D vwCl (pm_cl y L (pm_aPrint S (nI f) (nI 2)).2 (pm_ub Bs (pi kn) S) (pm_rp pi kn (pm_aPrint S (nI f) (nI 2)).1) (pm_rk kn (pm_aPrint S (nI f) (nI 2)).1) Gs sv U) t252.heap := hB254; rw [E] at h8; rw [← ht253]; exact h8
      obtain rfl : r251 = nI (S 10 1 - 40) := h257.trans (by rw [E])
      obtain ⟨hP, hD⟩ := pm_all (D := D) (cl := vwCl) (H1 := H1) hD (w' := pm_cl y L T (pm_ub Bs (pi kn) S) (pm_rp pi kn (nI (S 10 1 - 40))) (pm_rk kn (nI (S 10 1 - 40))) Gs sv U) hB254 (pm_cl_fst ..)
      have hC258 := pq_C_r hC (nI (S 10 1 - 40))
      generalize pm_ub Bs (pi kn) S = Bs259 at hP hD
      generalize pm_rp pi kn (nI (S 10 1 - 40)) = pi260 at hP hD hC258
      generalize pm_rk kn (nI (S 10 1 - 40)) = kn261 at hP hD hC258
      generalize H1 = H at hP hS ⊢
      have hP : va_P D vwCl (pm_cl y L T Bs259 pi260 kn261 Gs sv U) H := hP
      have hD : va_D (pm_ad (pm_cl y L S Bs pi kn Gs sv U)) (pm_cl y L T Bs259 pi260 kn261 Gs sv U) := hD
      refine lv_istore (lv' := [(7, .int (nI (S 10 1 - 40))), (6, .int (nI (S 11 2))), (5, .int (nI (S 10 2))), (4, .int (nI (S 10 1))), (3, .int (nI 1)), (0, .ref (L 0 0)), (1, .int (nI f)), (2, .int (nI 2))]) hx hb dL_isPrinted_71 hl (by decide) rfl (fun ls hl => ?_)
      refine lv_iload_n hx hb dL_isPrinted_73 rfl (lv_at hl 4 rfl) ?_
      refine lv_if_ne (tgt := 100) hx hb dL_isPrinted_74 (by decide) (fun _ => ?_) (fun c262 => absurd c262 (by decide))
      refine lv_iload hx hb dL_isPrinted_100 (lv_at hl 0 rfl) ?_
      refine lv_iload hx hb dL_isPrinted_102 (lv_at hl 3 rfl) ?_
      refine lv_bipush (v := nI 10) hx hb dL_isPrinted_104 (by decide) ?_
      refine lv_iload_n hx hb dL_isPrinted_106 rfl (lv_at hl 7 rfl) ?_
      refine kx_imul hx hb dL_isPrinted_107 ?_
      refine lv_topi (fun x263 e264 => ?_)
      obtain rfl : x263 = nI 20 := e264.trans (rfl)
      refine lv_iload_n hx hb dL_isPrinted_108 rfl (lv_at hl 7 rfl) ?_
      refine kx_imul hx hb dL_isPrinted_109 ?_
      refine lv_topi (fun x265 e266 => ?_)
      obtain rfl : x265 = nI 40 := e266.trans (rfl)
      refine kx_isub hx hb (by omega) dL_isPrinted_110 ?_
      refine kx_icmp_ne (tgt := 181) hx hb (by omega) (by omega) dL_isPrinted_111 (by decide) (fun c267 => by exfalso; omega) (fun c267 => ?_)
      refine lv_aload_n hx hb dL_isPrinted_114 rfl (lv_at hl 5 rfl) ?_
      refine lv_iconst (v := nI 5) hx hb dL_isPrinted_115 (by decide) ?_
      refine vp_callSi (W.runV (As := [.int (nI 5)]) (rest := []) ⟨hx, hb, hml, hown, hts⟩ (k_X3_count l D y L T Bs259 pi260 kn261 Gs sv U Bs Gs (nI 5) hIT.1) (cwV 1 hts gL_isPrinted_X3_count rfl rfl rfl hd_X3_count ⟨Nat.le_of_ble_eq_true rfl, Nat.le_of_ble_eq_true rfl⟩) ⟨pm_ron_blind, va_recv hK hP (ci := 3) (q0 := 0) rfl rfl, pm_ron_pre hP hK hN⟩ rfl rfl hl.1 rfl (lv_room (Nat.le_of_ble_eq_true rfl)) dL_isPrinted_116 ⟨Nat.le_of_ble_eq_true rfl, Nat.le_of_ble_eq_true rfl⟩) (fun r268 h269 => ?_)
      obtain rfl : r268 = nI (T 10 1) := h269.trans (pq_co5)
      have := hIT.1.pap
      refine lv_iload hx hb dL_isPrinted_119 (lv_at hl 0 rfl) ?_
      refine kx_icmp_ne (tgt := 181) hx hb (by omega) (by omega) dL_isPrinted_121 (by decide) (fun c270 => by exfalso; omega) (fun c270 => ?_)
      refine lv_aload_n hx hb dL_isPrinted_124 rfl (lv_at hl 5 rfl) ?_
      refine lv_bipush (v := nI 6) hx hb dL_isPrinted_125 (by decide) ?_
      refine vp_callSi (W.runV (As := [.int (nI 6)]) (rest := []) ⟨hx, hb, hml, hown, hts⟩ (k_X3_count l D y L T Bs259 pi260 kn261 Gs sv U Bs Gs (nI 6) hIT.1) (cwV 1 hts gL_isPrinted_X3_count rfl rfl rfl hd_X3_count ⟨Nat.le_of_ble_eq_true rfl, Nat.le_of_ble_eq_true rfl⟩) ⟨pm_ron_blind, va_recv hK hP (ci := 3) (q0 := 0) rfl rfl, pm_ron_pre hP hK hN⟩ rfl rfl hl.1 rfl (lv_room (Nat.le_of_ble_eq_true rfl)) dL_isPrinted_127 ⟨Nat.le_of_ble_eq_true rfl, Nat.le_of_ble_eq_true rfl⟩) (fun r271 h272 => ?_)
      obtain rfl : r271 = nI (T 10 2) := h272.trans (pq_co6)
      refine lv_iload hx hb dL_isPrinted_130 (lv_at hl 2 rfl) ?_
      refine lv_bipush (v := nI 10) hx hb dL_isPrinted_132 (by decide) ?_
      refine lv_iload_n hx hb dL_isPrinted_134 rfl (lv_at hl 7 rfl) ?_
      refine kx_imul hx hb dL_isPrinted_135 ?_
      refine lv_topi (fun x273 e274 => ?_)
      obtain rfl : x273 = nI 20 := e274.trans (rfl)
      refine lv_iload_n hx hb dL_isPrinted_136 rfl (lv_at hl 7 rfl) ?_
      refine kx_imul hx hb dL_isPrinted_137 ?_
      refine lv_topi (fun x275 e276 => ?_)
      obtain rfl : x275 = nI 40 := e276.trans (rfl)
      refine lv_iadd hx hb dL_isPrinted_138 ?_
      refine lv_icmp_ne (tgt := 181) hx hb dL_isPrinted_139 (by decide) (fun c277 => by exfalso; exact c277 (by rw [t2, ← nI_add])) (fun c277 => ?_)
      refine lv_aload_n hx hb dL_isPrinted_142 rfl (lv_at hl 5 rfl) ?_
      refine lv_bipush (v := nI 6) hx hb dL_isPrinted_143 (by decide) ?_
      refine lv_iload_n hx hb dL_isPrinted_145 rfl (lv_at hl 7 rfl) ?_
      refine kx_iadd hx hb dL_isPrinted_146 ?_
      refine lv_topi (fun x278 e279 => ?_)
      obtain rfl : x278 = nI 8 := e279.trans (rfl)
      refine vp_callSi (W.runV (As := [.int (nI 8)]) (rest := []) ⟨hx, hb, hml, hown, hts⟩ (k_X3_count l D y L T Bs259 pi260 kn261 Gs sv U Bs Gs (nI 8) hIT.1) (cwV 1 hts gL_isPrinted_X3_count rfl rfl rfl hd_X3_count ⟨Nat.le_of_ble_eq_true rfl, Nat.le_of_ble_eq_true rfl⟩) ⟨pm_ron_blind, va_recv hK hP (ci := 3) (q0 := 0) rfl rfl, pm_ron_pre hP hK hN⟩ rfl rfl hl.1 rfl (lv_room (Nat.le_of_ble_eq_true rfl)) dL_isPrinted_147 ⟨Nat.le_of_ble_eq_true rfl, Nat.le_of_ble_eq_true rfl⟩) (fun r280 h281 => ?_)
      obtain rfl : r280 = nI (T 11 2) := h281.trans (pq_co8)
      refine lv_iload hx hb dL_isPrinted_150 (lv_at hl 1 rfl) ?_
      refine lv_iconst (v := nI 1) hx hb dL_isPrinted_152 (by decide) ?_
      refine lv_iadd hx hb dL_isPrinted_153 ?_
      refine lv_icmp_ne (tgt := 181) hx hb dL_isPrinted_154 (by decide) (fun c282 => by exfalso; exact c282 (by rw [t11, ← nI_add])) (fun c282 => ?_)
      refine lv_aload_n hx hb dL_isPrinted_157 rfl (lv_at hl 5 rfl) ?_
      refine lv_iload_n hx hb dL_isPrinted_158 rfl (lv_at hl 6 rfl) ?_
      refine lv_iconst (v := nI 0) hx hb dL_isPrinted_159 (by decide) ?_
      refine vp_callSi (W.runV (As := [.int (nI f), .int (nI 0)]) (rest := []) ⟨hx, hb, hml, hown, hts⟩ (k_X3_of l D y L T Bs259 pi260 kn261 Gs sv U Bs Gs (nI f) (nI 0) hIT.1) (cwV 2 hts gL_isPrinted_X3_of rfl rfl rfl hd_X3_of ⟨Nat.le_of_ble_eq_true rfl, Nat.le_of_ble_eq_true rfl⟩) ⟨pm_ro_blind, va_recv hK hP (ci := 3) (q0 := 0) rfl rfl, pm_ro_pre hP hK⟩ rfl rfl hl.1 rfl (lv_room (Nat.le_of_ble_eq_true rfl)) dL_isPrinted_160 ⟨Nat.le_of_ble_eq_true rfl, Nat.le_of_ble_eq_true rfl⟩) (fun r283 h284 => ?_)
      obtain rfl : r283 = nI (T 0 f) := h284.trans (pq_of0 (by omega))
      have := hIT.1.how f (by omega)
      refine lv_iconst (v := nI 3) hx hb dL_isPrinted_163 (by decide) ?_
      refine kx_icmp_ne (tgt := 181) hx hb (by omega) (by decide) dL_isPrinted_164 (by decide) (fun c285 => by exfalso; omega) (fun c285 => ?_)
      refine lv_aload_n hx hb dL_isPrinted_167 rfl (lv_at hl 5 rfl) ?_
      refine lv_iload_n hx hb dL_isPrinted_168 rfl (lv_at hl 6 rfl) ?_
      refine lv_iconst (v := nI 4) hx hb dL_isPrinted_169 (by decide) ?_
      refine vp_callSi (W.runV (As := [.int (nI f), .int (nI 4)]) (rest := []) ⟨hx, hb, hml, hown, hts⟩ (k_X3_of l D y L T Bs259 pi260 kn261 Gs sv U Bs Gs (nI f) (nI 4) hIT.1) (cwV 2 hts gL_isPrinted_X3_of rfl rfl rfl hd_X3_of ⟨Nat.le_of_ble_eq_true rfl, Nat.le_of_ble_eq_true rfl⟩) ⟨pm_ro_blind, va_recv hK hP (ci := 3) (q0 := 0) rfl rfl, pm_ro_pre hP hK⟩ rfl rfl hl.1 rfl (lv_room (Nat.le_of_ble_eq_true rfl)) dL_isPrinted_170 ⟨Nat.le_of_ble_eq_true rfl, Nat.le_of_ble_eq_true rfl⟩) (fun r286 h287 => ?_)
      obtain rfl : r286 = nI (T 2 f) := h287.trans (pq_of4 (by omega))
      have := hIT.1.size f (by omega)
      refine lv_iload_n hx hb dL_isPrinted_173 rfl (lv_at hl 7 rfl) ?_
      refine kx_icmp_ne (tgt := 181) hx hb (by omega) (by decide) dL_isPrinted_174 (by decide) (fun c288 => by exfalso; omega) (fun c288 => ?_)
      refine lv_iconst (v := nI 1) hx hb dL_isPrinted_177 (by decide) ?_
      refine lv_goto (tgt := 182) hx hb dL_isPrinted_178 (by decide) ?_
      exact W.zret (ty := .boolean) hx hb hr rfl (fun t ht _ => ⟨⟨_, (T, Bs259, pi260, kn261), rfl, ⟨rfl, hIT, hC258⟩, (by show va_P D vwCl (pm_cl y L T Bs259 pi260 kn261 Gs sv U) t.heap; rw [ht]; exact hP)⟩, hS.F ht⟩) hS.2.2 dL_isPrinted_182
  · skip
    rcases pq_pri (S := S) (z := 3) (w := 90) hf (by decide) (by decide) (by decide) with ⟨hno, E⟩ | ⟨h0, h2, h10, T, E, t1, t2, t11, t0, tz⟩
    · skip
      refine lv_aload_n hx hb dL_isPrinted_0 rfl (lv_at hl 0 rfl) ?_
      refine lv_iload_n hx hb dL_isPrinted_1 rfl (lv_at hl 1 rfl) ?_
      refine lv_iconst (v := nI 0) hx hb dL_isPrinted_2 (by decide) ?_
      refine vp_callSi (W.runV (As := [.int (nI f), .int (nI 0)]) (rest := []) ⟨hx, hb, hml, hown, hts⟩ (k_X3_of l D y L S Bs pi kn Gs sv U Bs Gs (nI f) (nI 0) hI.1) (cwV 2 hts gL_isPrinted_X3_of rfl rfl rfl hd_X3_of ⟨Nat.le_of_ble_eq_true rfl, Nat.le_of_ble_eq_true rfl⟩) ⟨pm_ro_blind, va_recv hK hP (ci := 3) (q0 := 0) rfl rfl, pm_ro_pre hP hK⟩ rfl rfl hl.1 rfl (lv_room (Nat.le_of_ble_eq_true rfl)) dL_isPrinted_3 ⟨Nat.le_of_ble_eq_true rfl, Nat.le_of_ble_eq_true rfl⟩) (fun r289 h290 => ?_)
      obtain rfl : r289 = nI (S 0 f) := h290.trans (pq_of0 (by omega))
      have := hI.1.how f (by omega)
      refine lv_iconst (v := nI 1) hx hb dL_isPrinted_6 (by decide) ?_
      refine kx_icmp_ne (tgt := 38) hx hb (by omega) (by decide) dL_isPrinted_7 (by decide) (fun c291 => ?_) (fun c291 => ?_)
      · skip
        refine lv_iconst (v := nI 0) hx hb dL_isPrinted_38 (by decide) ?_
        refine lv_istore_n (lv' := [(3, .int (nI 0)), (0, .ref (L 0 0)), (1, .int (nI f)), (2, .int (nI 3))]) hx hb dL_isPrinted_39 rfl hl (by decide) rfl (fun ls hl => ?_)
        refine lv_aload_n hx hb dL_isPrinted_40 rfl (lv_at hl 1 rfl) ?_
        refine lv_iconst (v := nI 5) hx hb dL_isPrinted_41 (by decide) ?_
        refine vp_callSi (W.runV (As := [.int (nI 5)]) (rest := []) ⟨hx, hb, hml, hown, hts⟩ (k_X3_count l D y L S Bs pi kn Gs sv U Bs Gs (nI 5) hI.1) (cwV 1 hts gL_isPrinted_X3_count rfl rfl rfl hd_X3_count ⟨Nat.le_of_ble_eq_true rfl, Nat.le_of_ble_eq_true rfl⟩) ⟨pm_ron_blind, va_recv hK hP (ci := 3) (q0 := 0) rfl rfl, pm_ron_pre hP hK hN⟩ rfl rfl hl.1 rfl (lv_room (Nat.le_of_ble_eq_true rfl)) dL_isPrinted_42 ⟨Nat.le_of_ble_eq_true rfl, Nat.le_of_ble_eq_true rfl⟩) (fun r292 h293 => ?_)
        obtain rfl : r292 = nI (S 10 1) := h293.trans (pq_co5)
        have := hI.1.pap
        refine lv_istore (lv' := [(4, .int (nI (S 10 1))), (3, .int (nI 0)), (0, .ref (L 0 0)), (1, .int (nI f)), (2, .int (nI 3))]) hx hb dL_isPrinted_45 hl (by decide) rfl (fun ls hl => ?_)
        refine lv_aload_n hx hb dL_isPrinted_47 rfl (lv_at hl 2 rfl) ?_
        refine lv_bipush (v := nI 6) hx hb dL_isPrinted_48 (by decide) ?_
        refine vp_callSi (W.runV (As := [.int (nI 6)]) (rest := []) ⟨hx, hb, hml, hown, hts⟩ (k_X3_count l D y L S Bs pi kn Gs sv U Bs Gs (nI 6) hI.1) (cwV 1 hts gL_isPrinted_X3_count rfl rfl rfl hd_X3_count ⟨Nat.le_of_ble_eq_true rfl, Nat.le_of_ble_eq_true rfl⟩) ⟨pm_ron_blind, va_recv hK hP (ci := 3) (q0 := 0) rfl rfl, pm_ron_pre hP hK hN⟩ rfl rfl hl.1 rfl (lv_room (Nat.le_of_ble_eq_true rfl)) dL_isPrinted_50 ⟨Nat.le_of_ble_eq_true rfl, Nat.le_of_ble_eq_true rfl⟩) (fun r294 h295 => ?_)
        obtain rfl : r294 = nI (S 10 2) := h295.trans (pq_co6)
        refine lv_istore (lv' := [(5, .int (nI (S 10 2))), (4, .int (nI (S 10 1))), (3, .int (nI 0)), (0, .ref (L 0 0)), (1, .int (nI f)), (2, .int (nI 3))]) hx hb dL_isPrinted_53 hl (by decide) rfl (fun ls hl => ?_)
        refine lv_aload_n hx hb dL_isPrinted_55 rfl (lv_at hl 3 rfl) ?_
        refine lv_bipush (v := nI 6) hx hb dL_isPrinted_56 (by decide) ?_
        refine lv_iload_n hx hb dL_isPrinted_58 rfl (lv_at hl 5 rfl) ?_
        refine kx_iadd hx hb dL_isPrinted_59 ?_
        refine lv_topi (fun x296 e297 => ?_)
        obtain rfl : x296 = nI 9 := e297.trans (rfl)
        refine vp_callSi (W.runV (As := [.int (nI 9)]) (rest := []) ⟨hx, hb, hml, hown, hts⟩ (k_X3_count l D y L S Bs pi kn Gs sv U Bs Gs (nI 9) hI.1) (cwV 1 hts gL_isPrinted_X3_count rfl rfl rfl hd_X3_count ⟨Nat.le_of_ble_eq_true rfl, Nat.le_of_ble_eq_true rfl⟩) ⟨pm_ron_blind, va_recv hK hP (ci := 3) (q0 := 0) rfl rfl, pm_ron_pre hP hK hN⟩ rfl rfl hl.1 rfl (lv_room (Nat.le_of_ble_eq_true rfl)) dL_isPrinted_60 ⟨Nat.le_of_ble_eq_true rfl, Nat.le_of_ble_eq_true rfl⟩) (fun r298 h299 => ?_)
        obtain rfl : r298 = nI (S 11 3) := h299.trans (pq_co9)
        refine lv_istore (lv' := [(6, .int (nI (S 11 3))), (5, .int (nI (S 10 2))), (4, .int (nI (S 10 1))), (3, .int (nI 0)), (0, .ref (L 0 0)), (1, .int (nI f)), (2, .int (nI 3))]) hx hb dL_isPrinted_63 hl (by decide) rfl (fun ls hl => ?_)
        refine lv_aload_n hx hb dL_isPrinted_65 rfl (lv_at hl 4 rfl) ?_
        refine lv_iload_n hx hb dL_isPrinted_66 rfl (lv_at hl 5 rfl) ?_
        refine lv_iload_n hx hb dL_isPrinted_67 rfl (lv_at hl 6 rfl) ?_
        refine va_calli (va_runV (As := [.int (nI f), .int (nI 3)]) (rest := []) ⟨hx, hb, hml, hown, hts⟩ (k_X3_print l D y L S Bs pi kn Gs sv U (fun i => Bs (pi i)) Gs (nI f) (nI 3) (pq_CI hC) hI.1) (cwV 2 hts gL_isPrinted_X3_print rfl rfl rfl hd_X3_print ⟨Nat.le_of_ble_eq_true rfl, Nat.le_of_ble_eq_true rfl⟩) ⟨pm_wr_blind, va_recv hK hP (ci := 3) (q0 := 0) rfl rfl, pm_wr_pre hP hK hD⟩ rfl rfl hl.1 rfl (lv_room (Nat.le_of_ble_eq_true rfl)) dL_isPrinted_68 ⟨Nat.le_of_ble_eq_true rfl, Nat.le_of_ble_eq_true rfl⟩) hS (fun q _ h9 => pm_ad_all hD q h9) (pm_ad_all hD) (fun r300 u305 t301 H1 locs ht302 _ h306 hB303 _ hk304 hS => ?_)
        have hB303 : va_P D vwCl (pm_cl y L S (pm_ub Bs (pi kn) S) (pm_rp pi kn (-5)) (pm_rk kn (-5)) Gs sv U) H1 := by have h8 : va_P D vwCl (pm_cl y L (pm_aPrint S (nI f) (nI 3)).2 (pm_ub Bs (pi kn) S) (pm_rp pi kn (pm_aPrint S (nI f) (nI 3)).1) (pm_rk kn (pm_aPrint S (nI f) (nI 3)).1) Gs sv U) t301.heap := hB303; rw [E] at h8; rw [← ht302]; exact h8
        obtain rfl : r300 = -5 := h306.trans (by rw [E])
        obtain ⟨hP, hD⟩ := pm_all (D := D) (cl := vwCl) (H1 := H1) hD (w' := pm_cl y L S (pm_ub Bs (pi kn) S) (pm_rp pi kn (-5)) (pm_rk kn (-5)) Gs sv U) hB303 (pm_cl_fst ..)
        have hC307 := pq_C_r hC (-5)
        generalize pm_ub Bs (pi kn) S = Bs308 at hP hD
        generalize pm_rp pi kn (-5) = pi309 at hP hD hC307
        generalize pm_rk kn (-5) = kn310 at hP hD hC307
        generalize H1 = H at hP hS ⊢
        have hP : va_P D vwCl (pm_cl y L S Bs308 pi309 kn310 Gs sv U) H := hP
        have hD : va_D (pm_ad (pm_cl y L S Bs pi kn Gs sv U)) (pm_cl y L S Bs308 pi309 kn310 Gs sv U) := hD
        refine lv_istore (lv' := [(7, .int (-5)), (6, .int (nI (S 11 3))), (5, .int (nI (S 10 2))), (4, .int (nI (S 10 1))), (3, .int (nI 0)), (0, .ref (L 0 0)), (1, .int (nI f)), (2, .int (nI 3))]) hx hb dL_isPrinted_71 hl (by decide) rfl (fun ls hl => ?_)
        refine lv_iload_n hx hb dL_isPrinted_73 rfl (lv_at hl 4 rfl) ?_
        refine lv_if_ne (tgt := 100) hx hb dL_isPrinted_74 (by decide) (fun c311 => (c311 (by decide)).elim) (fun _ => ?_)
        refine lv_iload hx hb dL_isPrinted_77 (lv_at hl 0 rfl) ?_
        refine lv_bipush (v := (-5)) hx hb dL_isPrinted_79 (by decide) ?_
        refine lv_icmp_ne (tgt := 98) hx hb dL_isPrinted_81 (by decide) (fun c312 => (c312 (by decide)).elim) (fun _ => ?_)
        refine lv_aload_n hx hb dL_isPrinted_84 rfl (lv_at hl 5 rfl) ?_
        refine lv_iconst (v := nI 5) hx hb dL_isPrinted_85 (by decide) ?_
        refine vp_callSi (W.runV (As := [.int (nI 5)]) (rest := []) ⟨hx, hb, hml, hown, hts⟩ (k_X3_count l D y L S Bs308 pi309 kn310 Gs sv U Bs Gs (nI 5) hI.1) (cwV 1 hts gL_isPrinted_X3_count rfl rfl rfl hd_X3_count ⟨Nat.le_of_ble_eq_true rfl, Nat.le_of_ble_eq_true rfl⟩) ⟨pm_ron_blind, va_recv hK hP (ci := 3) (q0 := 0) rfl rfl, pm_ron_pre hP hK hN⟩ rfl rfl hl.1 rfl (lv_room (Nat.le_of_ble_eq_true rfl)) dL_isPrinted_86 ⟨Nat.le_of_ble_eq_true rfl, Nat.le_of_ble_eq_true rfl⟩) (fun r313 h314 => ?_)
        obtain rfl : r313 = nI (S 10 1) := h314.trans (pq_co5)
        have := hI.1.pap
        refine lv_iload hx hb dL_isPrinted_89 (lv_at hl 3 rfl) ?_
        refine kx_icmp_ne (tgt := 98) hx hb (by omega) (by omega) dL_isPrinted_91 (by decide) (fun c315 => by exfalso; omega) (fun c315 => ?_)
        refine lv_iconst (v := nI 1) hx hb dL_isPrinted_94 (by decide) ?_
        refine lv_goto (tgt := 99) hx hb dL_isPrinted_95 (by decide) ?_
        exact W.zret (ty := .boolean) hx hb hr rfl (fun t ht _ => ⟨⟨_, (S, Bs308, pi309, kn310), rfl, ⟨rfl, hI, hC307⟩, (by show va_P D vwCl (pm_cl y L S Bs308 pi309 kn310 Gs sv U) t.heap; rw [ht]; exact hP)⟩, hS.F ht⟩) hS.2.2 dL_isPrinted_99
      · skip
        refine lv_iload_n hx hb dL_isPrinted_10 rfl (lv_at hl 2 rfl) ?_
        refine lv_aload_n hx hb dL_isPrinted_11 rfl (lv_at hl 0 rfl) ?_
        refine lv_iload_n hx hb dL_isPrinted_12 rfl (lv_at hl 1 rfl) ?_
        refine lv_iconst (v := nI 4) hx hb dL_isPrinted_13 (by decide) ?_
        refine vp_callSi (W.runV (As := [.int (nI f), .int (nI 4)]) (rest := [.int (nI 3)]) ⟨hx, hb, hml, hown, hts⟩ (k_X3_of l D y L S Bs pi kn Gs sv U Bs Gs (nI f) (nI 4) hI.1) (cwV 2 hts gL_isPrinted_X3_of rfl rfl rfl hd_X3_of ⟨Nat.le_of_ble_eq_true rfl, Nat.le_of_ble_eq_true rfl⟩) ⟨pm_ro_blind, va_recv hK hP (ci := 3) (q0 := 0) rfl rfl, pm_ro_pre hP hK⟩ rfl rfl hl.1 rfl (lv_room (Nat.le_of_ble_eq_true rfl)) dL_isPrinted_14 ⟨Nat.le_of_ble_eq_true rfl, Nat.le_of_ble_eq_true rfl⟩) (fun r316 h317 => ?_)
        obtain rfl : r316 = nI (S 2 f) := h317.trans (pq_of4 (by omega))
        have := hI.1.size f (by omega)
        refine kx_icmp_gt (tgt := 38) hx hb (by decide) (by omega) dL_isPrinted_17 (by decide) (fun c318 => ?_) (fun c318 => ?_)
        · skip
          refine lv_iconst (v := nI 0) hx hb dL_isPrinted_38 (by decide) ?_
          refine lv_istore_n (lv' := [(3, .int (nI 0)), (0, .ref (L 0 0)), (1, .int (nI f)), (2, .int (nI 3))]) hx hb dL_isPrinted_39 rfl hl (by decide) rfl (fun ls hl => ?_)
          refine lv_aload_n hx hb dL_isPrinted_40 rfl (lv_at hl 1 rfl) ?_
          refine lv_iconst (v := nI 5) hx hb dL_isPrinted_41 (by decide) ?_
          refine vp_callSi (W.runV (As := [.int (nI 5)]) (rest := []) ⟨hx, hb, hml, hown, hts⟩ (k_X3_count l D y L S Bs pi kn Gs sv U Bs Gs (nI 5) hI.1) (cwV 1 hts gL_isPrinted_X3_count rfl rfl rfl hd_X3_count ⟨Nat.le_of_ble_eq_true rfl, Nat.le_of_ble_eq_true rfl⟩) ⟨pm_ron_blind, va_recv hK hP (ci := 3) (q0 := 0) rfl rfl, pm_ron_pre hP hK hN⟩ rfl rfl hl.1 rfl (lv_room (Nat.le_of_ble_eq_true rfl)) dL_isPrinted_42 ⟨Nat.le_of_ble_eq_true rfl, Nat.le_of_ble_eq_true rfl⟩) (fun r319 h320 => ?_)
          obtain rfl : r319 = nI (S 10 1) := h320.trans (pq_co5)
          have := hI.1.pap
          refine lv_istore (lv' := [(4, .int (nI (S 10 1))), (3, .int (nI 0)), (0, .ref (L 0 0)), (1, .int (nI f)), (2, .int (nI 3))]) hx hb dL_isPrinted_45 hl (by decide) rfl (fun ls hl => ?_)
          refine lv_aload_n hx hb dL_isPrinted_47 rfl (lv_at hl 2 rfl) ?_
          refine lv_bipush (v := nI 6) hx hb dL_isPrinted_48 (by decide) ?_
          refine vp_callSi (W.runV (As := [.int (nI 6)]) (rest := []) ⟨hx, hb, hml, hown, hts⟩ (k_X3_count l D y L S Bs pi kn Gs sv U Bs Gs (nI 6) hI.1) (cwV 1 hts gL_isPrinted_X3_count rfl rfl rfl hd_X3_count ⟨Nat.le_of_ble_eq_true rfl, Nat.le_of_ble_eq_true rfl⟩) ⟨pm_ron_blind, va_recv hK hP (ci := 3) (q0 := 0) rfl rfl, pm_ron_pre hP hK hN⟩ rfl rfl hl.1 rfl (lv_room (Nat.le_of_ble_eq_true rfl)) dL_isPrinted_50 ⟨Nat.le_of_ble_eq_true rfl, Nat.le_of_ble_eq_true rfl⟩) (fun r321 h322 => ?_)
          obtain rfl : r321 = nI (S 10 2) := h322.trans (pq_co6)
          refine lv_istore (lv' := [(5, .int (nI (S 10 2))), (4, .int (nI (S 10 1))), (3, .int (nI 0)), (0, .ref (L 0 0)), (1, .int (nI f)), (2, .int (nI 3))]) hx hb dL_isPrinted_53 hl (by decide) rfl (fun ls hl => ?_)
          refine lv_aload_n hx hb dL_isPrinted_55 rfl (lv_at hl 3 rfl) ?_
          refine lv_bipush (v := nI 6) hx hb dL_isPrinted_56 (by decide) ?_
          refine lv_iload_n hx hb dL_isPrinted_58 rfl (lv_at hl 5 rfl) ?_
          refine kx_iadd hx hb dL_isPrinted_59 ?_
          refine lv_topi (fun x323 e324 => ?_)
          obtain rfl : x323 = nI 9 := e324.trans (rfl)
          refine vp_callSi (W.runV (As := [.int (nI 9)]) (rest := []) ⟨hx, hb, hml, hown, hts⟩ (k_X3_count l D y L S Bs pi kn Gs sv U Bs Gs (nI 9) hI.1) (cwV 1 hts gL_isPrinted_X3_count rfl rfl rfl hd_X3_count ⟨Nat.le_of_ble_eq_true rfl, Nat.le_of_ble_eq_true rfl⟩) ⟨pm_ron_blind, va_recv hK hP (ci := 3) (q0 := 0) rfl rfl, pm_ron_pre hP hK hN⟩ rfl rfl hl.1 rfl (lv_room (Nat.le_of_ble_eq_true rfl)) dL_isPrinted_60 ⟨Nat.le_of_ble_eq_true rfl, Nat.le_of_ble_eq_true rfl⟩) (fun r325 h326 => ?_)
          obtain rfl : r325 = nI (S 11 3) := h326.trans (pq_co9)
          refine lv_istore (lv' := [(6, .int (nI (S 11 3))), (5, .int (nI (S 10 2))), (4, .int (nI (S 10 1))), (3, .int (nI 0)), (0, .ref (L 0 0)), (1, .int (nI f)), (2, .int (nI 3))]) hx hb dL_isPrinted_63 hl (by decide) rfl (fun ls hl => ?_)
          refine lv_aload_n hx hb dL_isPrinted_65 rfl (lv_at hl 4 rfl) ?_
          refine lv_iload_n hx hb dL_isPrinted_66 rfl (lv_at hl 5 rfl) ?_
          refine lv_iload_n hx hb dL_isPrinted_67 rfl (lv_at hl 6 rfl) ?_
          refine va_calli (va_runV (As := [.int (nI f), .int (nI 3)]) (rest := []) ⟨hx, hb, hml, hown, hts⟩ (k_X3_print l D y L S Bs pi kn Gs sv U (fun i => Bs (pi i)) Gs (nI f) (nI 3) (pq_CI hC) hI.1) (cwV 2 hts gL_isPrinted_X3_print rfl rfl rfl hd_X3_print ⟨Nat.le_of_ble_eq_true rfl, Nat.le_of_ble_eq_true rfl⟩) ⟨pm_wr_blind, va_recv hK hP (ci := 3) (q0 := 0) rfl rfl, pm_wr_pre hP hK hD⟩ rfl rfl hl.1 rfl (lv_room (Nat.le_of_ble_eq_true rfl)) dL_isPrinted_68 ⟨Nat.le_of_ble_eq_true rfl, Nat.le_of_ble_eq_true rfl⟩) hS (fun q _ h9 => pm_ad_all hD q h9) (pm_ad_all hD) (fun r327 u332 t328 H1 locs ht329 _ h333 hB330 _ hk331 hS => ?_)
          have hB330 : va_P D vwCl (pm_cl y L S (pm_ub Bs (pi kn) S) (pm_rp pi kn (-5)) (pm_rk kn (-5)) Gs sv U) H1 := by have h8 : va_P D vwCl (pm_cl y L (pm_aPrint S (nI f) (nI 3)).2 (pm_ub Bs (pi kn) S) (pm_rp pi kn (pm_aPrint S (nI f) (nI 3)).1) (pm_rk kn (pm_aPrint S (nI f) (nI 3)).1) Gs sv U) t328.heap := hB330; rw [E] at h8; rw [← ht329]; exact h8
          obtain rfl : r327 = -5 := h333.trans (by rw [E])
          obtain ⟨hP, hD⟩ := pm_all (D := D) (cl := vwCl) (H1 := H1) hD (w' := pm_cl y L S (pm_ub Bs (pi kn) S) (pm_rp pi kn (-5)) (pm_rk kn (-5)) Gs sv U) hB330 (pm_cl_fst ..)
          have hC334 := pq_C_r hC (-5)
          generalize pm_ub Bs (pi kn) S = Bs335 at hP hD
          generalize pm_rp pi kn (-5) = pi336 at hP hD hC334
          generalize pm_rk kn (-5) = kn337 at hP hD hC334
          generalize H1 = H at hP hS ⊢
          have hP : va_P D vwCl (pm_cl y L S Bs335 pi336 kn337 Gs sv U) H := hP
          have hD : va_D (pm_ad (pm_cl y L S Bs pi kn Gs sv U)) (pm_cl y L S Bs335 pi336 kn337 Gs sv U) := hD
          refine lv_istore (lv' := [(7, .int (-5)), (6, .int (nI (S 11 3))), (5, .int (nI (S 10 2))), (4, .int (nI (S 10 1))), (3, .int (nI 0)), (0, .ref (L 0 0)), (1, .int (nI f)), (2, .int (nI 3))]) hx hb dL_isPrinted_71 hl (by decide) rfl (fun ls hl => ?_)
          refine lv_iload_n hx hb dL_isPrinted_73 rfl (lv_at hl 4 rfl) ?_
          refine lv_if_ne (tgt := 100) hx hb dL_isPrinted_74 (by decide) (fun c338 => (c338 (by decide)).elim) (fun _ => ?_)
          refine lv_iload hx hb dL_isPrinted_77 (lv_at hl 0 rfl) ?_
          refine lv_bipush (v := (-5)) hx hb dL_isPrinted_79 (by decide) ?_
          refine lv_icmp_ne (tgt := 98) hx hb dL_isPrinted_81 (by decide) (fun c339 => (c339 (by decide)).elim) (fun _ => ?_)
          refine lv_aload_n hx hb dL_isPrinted_84 rfl (lv_at hl 5 rfl) ?_
          refine lv_iconst (v := nI 5) hx hb dL_isPrinted_85 (by decide) ?_
          refine vp_callSi (W.runV (As := [.int (nI 5)]) (rest := []) ⟨hx, hb, hml, hown, hts⟩ (k_X3_count l D y L S Bs335 pi336 kn337 Gs sv U Bs Gs (nI 5) hI.1) (cwV 1 hts gL_isPrinted_X3_count rfl rfl rfl hd_X3_count ⟨Nat.le_of_ble_eq_true rfl, Nat.le_of_ble_eq_true rfl⟩) ⟨pm_ron_blind, va_recv hK hP (ci := 3) (q0 := 0) rfl rfl, pm_ron_pre hP hK hN⟩ rfl rfl hl.1 rfl (lv_room (Nat.le_of_ble_eq_true rfl)) dL_isPrinted_86 ⟨Nat.le_of_ble_eq_true rfl, Nat.le_of_ble_eq_true rfl⟩) (fun r340 h341 => ?_)
          obtain rfl : r340 = nI (S 10 1) := h341.trans (pq_co5)
          have := hI.1.pap
          refine lv_iload hx hb dL_isPrinted_89 (lv_at hl 3 rfl) ?_
          refine kx_icmp_ne (tgt := 98) hx hb (by omega) (by omega) dL_isPrinted_91 (by decide) (fun c342 => by exfalso; omega) (fun c342 => ?_)
          refine lv_iconst (v := nI 1) hx hb dL_isPrinted_94 (by decide) ?_
          refine lv_goto (tgt := 99) hx hb dL_isPrinted_95 (by decide) ?_
          exact W.zret (ty := .boolean) hx hb hr rfl (fun t ht _ => ⟨⟨_, (S, Bs335, pi336, kn337), rfl, ⟨rfl, hI, hC334⟩, (by show va_P D vwCl (pm_cl y L S Bs335 pi336 kn337 Gs sv U) t.heap; rw [ht]; exact hP)⟩, hS.F ht⟩) hS.2.2 dL_isPrinted_99
        · skip
          refine lv_bipush (v := nI 10) hx hb dL_isPrinted_20 (by decide) ?_
          refine lv_iload_n hx hb dL_isPrinted_22 rfl (lv_at hl 2 rfl) ?_
          refine kx_imul hx hb dL_isPrinted_23 ?_
          refine lv_topi (fun x343 e344 => ?_)
          obtain rfl : x343 = nI 30 := e344.trans (rfl)
          refine lv_iload_n hx hb dL_isPrinted_24 rfl (lv_at hl 2 rfl) ?_
          refine kx_imul hx hb dL_isPrinted_25 ?_
          refine lv_topi (fun x345 e346 => ?_)
          obtain rfl : x345 = nI 90 := e346.trans (rfl)
          refine lv_aload_n hx hb dL_isPrinted_26 rfl (lv_at hl 0 rfl) ?_
          refine lv_iconst (v := nI 5) hx hb dL_isPrinted_27 (by decide) ?_
          refine vp_callSi (W.runV (As := [.int (nI 5)]) (rest := [.int (nI 90)]) ⟨hx, hb, hml, hown, hts⟩ (k_X3_count l D y L S Bs pi kn Gs sv U Bs Gs (nI 5) hI.1) (cwV 1 hts gL_isPrinted_X3_count rfl rfl rfl hd_X3_count ⟨Nat.le_of_ble_eq_true rfl, Nat.le_of_ble_eq_true rfl⟩) ⟨pm_ron_blind, va_recv hK hP (ci := 3) (q0 := 0) rfl rfl, pm_ron_pre hP hK hN⟩ rfl rfl hl.1 rfl (lv_room (Nat.le_of_ble_eq_true rfl)) dL_isPrinted_28 ⟨Nat.le_of_ble_eq_true rfl, Nat.le_of_ble_eq_true rfl⟩) (fun r347 h348 => ?_)
          obtain rfl : r347 = nI (S 10 1) := h348.trans (pq_co5)
          have := hI.1.pap
          refine kx_icmp_gt (tgt := 38) hx hb (by decide) (by omega) dL_isPrinted_31 (by decide) (fun c349 => ?_) (fun c349 => by exfalso; omega)
          refine lv_iconst (v := nI 0) hx hb dL_isPrinted_38 (by decide) ?_
          refine lv_istore_n (lv' := [(3, .int (nI 0)), (0, .ref (L 0 0)), (1, .int (nI f)), (2, .int (nI 3))]) hx hb dL_isPrinted_39 rfl hl (by decide) rfl (fun ls hl => ?_)
          refine lv_aload_n hx hb dL_isPrinted_40 rfl (lv_at hl 1 rfl) ?_
          refine lv_iconst (v := nI 5) hx hb dL_isPrinted_41 (by decide) ?_
          refine vp_callSi (W.runV (As := [.int (nI 5)]) (rest := []) ⟨hx, hb, hml, hown, hts⟩ (k_X3_count l D y L S Bs pi kn Gs sv U Bs Gs (nI 5) hI.1) (cwV 1 hts gL_isPrinted_X3_count rfl rfl rfl hd_X3_count ⟨Nat.le_of_ble_eq_true rfl, Nat.le_of_ble_eq_true rfl⟩) ⟨pm_ron_blind, va_recv hK hP (ci := 3) (q0 := 0) rfl rfl, pm_ron_pre hP hK hN⟩ rfl rfl hl.1 rfl (lv_room (Nat.le_of_ble_eq_true rfl)) dL_isPrinted_42 ⟨Nat.le_of_ble_eq_true rfl, Nat.le_of_ble_eq_true rfl⟩) (fun r350 h351 => ?_)
          obtain rfl : r350 = nI (S 10 1) := h351.trans (pq_co5)
          have := hI.1.pap
          refine lv_istore (lv' := [(4, .int (nI (S 10 1))), (3, .int (nI 0)), (0, .ref (L 0 0)), (1, .int (nI f)), (2, .int (nI 3))]) hx hb dL_isPrinted_45 hl (by decide) rfl (fun ls hl => ?_)
          refine lv_aload_n hx hb dL_isPrinted_47 rfl (lv_at hl 2 rfl) ?_
          refine lv_bipush (v := nI 6) hx hb dL_isPrinted_48 (by decide) ?_
          refine vp_callSi (W.runV (As := [.int (nI 6)]) (rest := []) ⟨hx, hb, hml, hown, hts⟩ (k_X3_count l D y L S Bs pi kn Gs sv U Bs Gs (nI 6) hI.1) (cwV 1 hts gL_isPrinted_X3_count rfl rfl rfl hd_X3_count ⟨Nat.le_of_ble_eq_true rfl, Nat.le_of_ble_eq_true rfl⟩) ⟨pm_ron_blind, va_recv hK hP (ci := 3) (q0 := 0) rfl rfl, pm_ron_pre hP hK hN⟩ rfl rfl hl.1 rfl (lv_room (Nat.le_of_ble_eq_true rfl)) dL_isPrinted_50 ⟨Nat.le_of_ble_eq_true rfl, Nat.le_of_ble_eq_true rfl⟩) (fun r352 h353 => ?_)
          obtain rfl : r352 = nI (S 10 2) := h353.trans (pq_co6)
          refine lv_istore (lv' := [(5, .int (nI (S 10 2))), (4, .int (nI (S 10 1))), (3, .int (nI 0)), (0, .ref (L 0 0)), (1, .int (nI f)), (2, .int (nI 3))]) hx hb dL_isPrinted_53 hl (by decide) rfl (fun ls hl => ?_)
          refine lv_aload_n hx hb dL_isPrinted_55 rfl (lv_at hl 3 rfl) ?_
          refine lv_bipush (v := nI 6) hx hb dL_isPrinted_56 (by decide) ?_
          refine lv_iload_n hx hb dL_isPrinted_58 rfl (lv_at hl 5 rfl) ?_
          refine kx_iadd hx hb dL_isPrinted_59 ?_
          refine lv_topi (fun x354 e355 => ?_)
          obtain rfl : x354 = nI 9 := e355.trans (rfl)
          refine vp_callSi (W.runV (As := [.int (nI 9)]) (rest := []) ⟨hx, hb, hml, hown, hts⟩ (k_X3_count l D y L S Bs pi kn Gs sv U Bs Gs (nI 9) hI.1) (cwV 1 hts gL_isPrinted_X3_count rfl rfl rfl hd_X3_count ⟨Nat.le_of_ble_eq_true rfl, Nat.le_of_ble_eq_true rfl⟩) ⟨pm_ron_blind, va_recv hK hP (ci := 3) (q0 := 0) rfl rfl, pm_ron_pre hP hK hN⟩ rfl rfl hl.1 rfl (lv_room (Nat.le_of_ble_eq_true rfl)) dL_isPrinted_60 ⟨Nat.le_of_ble_eq_true rfl, Nat.le_of_ble_eq_true rfl⟩) (fun r356 h357 => ?_)
          obtain rfl : r356 = nI (S 11 3) := h357.trans (pq_co9)
          refine lv_istore (lv' := [(6, .int (nI (S 11 3))), (5, .int (nI (S 10 2))), (4, .int (nI (S 10 1))), (3, .int (nI 0)), (0, .ref (L 0 0)), (1, .int (nI f)), (2, .int (nI 3))]) hx hb dL_isPrinted_63 hl (by decide) rfl (fun ls hl => ?_)
          refine lv_aload_n hx hb dL_isPrinted_65 rfl (lv_at hl 4 rfl) ?_
          refine lv_iload_n hx hb dL_isPrinted_66 rfl (lv_at hl 5 rfl) ?_
          refine lv_iload_n hx hb dL_isPrinted_67 rfl (lv_at hl 6 rfl) ?_
          refine va_calli (va_runV (As := [.int (nI f), .int (nI 3)]) (rest := []) ⟨hx, hb, hml, hown, hts⟩ (k_X3_print l D y L S Bs pi kn Gs sv U (fun i => Bs (pi i)) Gs (nI f) (nI 3) (pq_CI hC) hI.1) (cwV 2 hts gL_isPrinted_X3_print rfl rfl rfl hd_X3_print ⟨Nat.le_of_ble_eq_true rfl, Nat.le_of_ble_eq_true rfl⟩) ⟨pm_wr_blind, va_recv hK hP (ci := 3) (q0 := 0) rfl rfl, pm_wr_pre hP hK hD⟩ rfl rfl hl.1 rfl (lv_room (Nat.le_of_ble_eq_true rfl)) dL_isPrinted_68 ⟨Nat.le_of_ble_eq_true rfl, Nat.le_of_ble_eq_true rfl⟩) hS (fun q _ h9 => pm_ad_all hD q h9) (pm_ad_all hD) (fun r358 u363 t359 H1 locs ht360 _ h364 hB361 _ hk362 hS => ?_)
          have hB361 : va_P D vwCl (pm_cl y L S (pm_ub Bs (pi kn) S) (pm_rp pi kn (-5)) (pm_rk kn (-5)) Gs sv U) H1 := by have h8 : va_P D vwCl (pm_cl y L (pm_aPrint S (nI f) (nI 3)).2 (pm_ub Bs (pi kn) S) (pm_rp pi kn (pm_aPrint S (nI f) (nI 3)).1) (pm_rk kn (pm_aPrint S (nI f) (nI 3)).1) Gs sv U) t359.heap := hB361; rw [E] at h8; rw [← ht360]; exact h8
          obtain rfl : r358 = -5 := h364.trans (by rw [E])
          obtain ⟨hP, hD⟩ := pm_all (D := D) (cl := vwCl) (H1 := H1) hD (w' := pm_cl y L S (pm_ub Bs (pi kn) S) (pm_rp pi kn (-5)) (pm_rk kn (-5)) Gs sv U) hB361 (pm_cl_fst ..)
          have hC365 := pq_C_r hC (-5)
          generalize pm_ub Bs (pi kn) S = Bs366 at hP hD
          generalize pm_rp pi kn (-5) = pi367 at hP hD hC365
          generalize pm_rk kn (-5) = kn368 at hP hD hC365
          generalize H1 = H at hP hS ⊢
          have hP : va_P D vwCl (pm_cl y L S Bs366 pi367 kn368 Gs sv U) H := hP
          have hD : va_D (pm_ad (pm_cl y L S Bs pi kn Gs sv U)) (pm_cl y L S Bs366 pi367 kn368 Gs sv U) := hD
          refine lv_istore (lv' := [(7, .int (-5)), (6, .int (nI (S 11 3))), (5, .int (nI (S 10 2))), (4, .int (nI (S 10 1))), (3, .int (nI 0)), (0, .ref (L 0 0)), (1, .int (nI f)), (2, .int (nI 3))]) hx hb dL_isPrinted_71 hl (by decide) rfl (fun ls hl => ?_)
          refine lv_iload_n hx hb dL_isPrinted_73 rfl (lv_at hl 4 rfl) ?_
          refine lv_if_ne (tgt := 100) hx hb dL_isPrinted_74 (by decide) (fun c369 => (c369 (by decide)).elim) (fun _ => ?_)
          refine lv_iload hx hb dL_isPrinted_77 (lv_at hl 0 rfl) ?_
          refine lv_bipush (v := (-5)) hx hb dL_isPrinted_79 (by decide) ?_
          refine lv_icmp_ne (tgt := 98) hx hb dL_isPrinted_81 (by decide) (fun c370 => (c370 (by decide)).elim) (fun _ => ?_)
          refine lv_aload_n hx hb dL_isPrinted_84 rfl (lv_at hl 5 rfl) ?_
          refine lv_iconst (v := nI 5) hx hb dL_isPrinted_85 (by decide) ?_
          refine vp_callSi (W.runV (As := [.int (nI 5)]) (rest := []) ⟨hx, hb, hml, hown, hts⟩ (k_X3_count l D y L S Bs366 pi367 kn368 Gs sv U Bs Gs (nI 5) hI.1) (cwV 1 hts gL_isPrinted_X3_count rfl rfl rfl hd_X3_count ⟨Nat.le_of_ble_eq_true rfl, Nat.le_of_ble_eq_true rfl⟩) ⟨pm_ron_blind, va_recv hK hP (ci := 3) (q0 := 0) rfl rfl, pm_ron_pre hP hK hN⟩ rfl rfl hl.1 rfl (lv_room (Nat.le_of_ble_eq_true rfl)) dL_isPrinted_86 ⟨Nat.le_of_ble_eq_true rfl, Nat.le_of_ble_eq_true rfl⟩) (fun r371 h372 => ?_)
          obtain rfl : r371 = nI (S 10 1) := h372.trans (pq_co5)
          have := hI.1.pap
          refine lv_iload hx hb dL_isPrinted_89 (lv_at hl 3 rfl) ?_
          refine kx_icmp_ne (tgt := 98) hx hb (by omega) (by omega) dL_isPrinted_91 (by decide) (fun c373 => by exfalso; omega) (fun c373 => ?_)
          refine lv_iconst (v := nI 1) hx hb dL_isPrinted_94 (by decide) ?_
          refine lv_goto (tgt := 99) hx hb dL_isPrinted_95 (by decide) ?_
          exact W.zret (ty := .boolean) hx hb hr rfl (fun t ht _ => ⟨⟨_, (S, Bs366, pi367, kn368), rfl, ⟨rfl, hI, hC365⟩, (by show va_P D vwCl (pm_cl y L S Bs366 pi367 kn368 Gs sv U) t.heap; rw [ht]; exact hP)⟩, hS.F ht⟩) hS.2.2 dL_isPrinted_99
    · have hIT : pq_I T := by have h8 := pq_print hI (nI f) (nI 3); rw [E] at h8; exact h8
      refine lv_aload_n hx hb dL_isPrinted_0 rfl (lv_at hl 0 rfl) ?_
      refine lv_iload_n hx hb dL_isPrinted_1 rfl (lv_at hl 1 rfl) ?_
      refine lv_iconst (v := nI 0) hx hb dL_isPrinted_2 (by decide) ?_
      refine vp_callSi (W.runV (As := [.int (nI f), .int (nI 0)]) (rest := []) ⟨hx, hb, hml, hown, hts⟩ (k_X3_of l D y L S Bs pi kn Gs sv U Bs Gs (nI f) (nI 0) hI.1) (cwV 2 hts gL_isPrinted_X3_of rfl rfl rfl hd_X3_of ⟨Nat.le_of_ble_eq_true rfl, Nat.le_of_ble_eq_true rfl⟩) ⟨pm_ro_blind, va_recv hK hP (ci := 3) (q0 := 0) rfl rfl, pm_ro_pre hP hK⟩ rfl rfl hl.1 rfl (lv_room (Nat.le_of_ble_eq_true rfl)) dL_isPrinted_3 ⟨Nat.le_of_ble_eq_true rfl, Nat.le_of_ble_eq_true rfl⟩) (fun r374 h375 => ?_)
      obtain rfl : r374 = nI (S 0 f) := h375.trans (pq_of0 (by omega))
      have := hI.1.how f (by omega)
      refine lv_iconst (v := nI 1) hx hb dL_isPrinted_6 (by decide) ?_
      refine kx_icmp_ne (tgt := 38) hx hb (by omega) (by decide) dL_isPrinted_7 (by decide) (fun c376 => by exfalso; omega) (fun c376 => ?_)
      refine lv_iload_n hx hb dL_isPrinted_10 rfl (lv_at hl 2 rfl) ?_
      refine lv_aload_n hx hb dL_isPrinted_11 rfl (lv_at hl 0 rfl) ?_
      refine lv_iload_n hx hb dL_isPrinted_12 rfl (lv_at hl 1 rfl) ?_
      refine lv_iconst (v := nI 4) hx hb dL_isPrinted_13 (by decide) ?_
      refine vp_callSi (W.runV (As := [.int (nI f), .int (nI 4)]) (rest := [.int (nI 3)]) ⟨hx, hb, hml, hown, hts⟩ (k_X3_of l D y L S Bs pi kn Gs sv U Bs Gs (nI f) (nI 4) hI.1) (cwV 2 hts gL_isPrinted_X3_of rfl rfl rfl hd_X3_of ⟨Nat.le_of_ble_eq_true rfl, Nat.le_of_ble_eq_true rfl⟩) ⟨pm_ro_blind, va_recv hK hP (ci := 3) (q0 := 0) rfl rfl, pm_ro_pre hP hK⟩ rfl rfl hl.1 rfl (lv_room (Nat.le_of_ble_eq_true rfl)) dL_isPrinted_14 ⟨Nat.le_of_ble_eq_true rfl, Nat.le_of_ble_eq_true rfl⟩) (fun r377 h378 => ?_)
      obtain rfl : r377 = nI (S 2 f) := h378.trans (pq_of4 (by omega))
      have := hI.1.size f (by omega)
      refine kx_icmp_gt (tgt := 38) hx hb (by decide) (by omega) dL_isPrinted_17 (by decide) (fun c379 => by exfalso; omega) (fun c379 => ?_)
      refine lv_bipush (v := nI 10) hx hb dL_isPrinted_20 (by decide) ?_
      refine lv_iload_n hx hb dL_isPrinted_22 rfl (lv_at hl 2 rfl) ?_
      refine kx_imul hx hb dL_isPrinted_23 ?_
      refine lv_topi (fun x380 e381 => ?_)
      obtain rfl : x380 = nI 30 := e381.trans (rfl)
      refine lv_iload_n hx hb dL_isPrinted_24 rfl (lv_at hl 2 rfl) ?_
      refine kx_imul hx hb dL_isPrinted_25 ?_
      refine lv_topi (fun x382 e383 => ?_)
      obtain rfl : x382 = nI 90 := e383.trans (rfl)
      refine lv_aload_n hx hb dL_isPrinted_26 rfl (lv_at hl 0 rfl) ?_
      refine lv_iconst (v := nI 5) hx hb dL_isPrinted_27 (by decide) ?_
      refine vp_callSi (W.runV (As := [.int (nI 5)]) (rest := [.int (nI 90)]) ⟨hx, hb, hml, hown, hts⟩ (k_X3_count l D y L S Bs pi kn Gs sv U Bs Gs (nI 5) hI.1) (cwV 1 hts gL_isPrinted_X3_count rfl rfl rfl hd_X3_count ⟨Nat.le_of_ble_eq_true rfl, Nat.le_of_ble_eq_true rfl⟩) ⟨pm_ron_blind, va_recv hK hP (ci := 3) (q0 := 0) rfl rfl, pm_ron_pre hP hK hN⟩ rfl rfl hl.1 rfl (lv_room (Nat.le_of_ble_eq_true rfl)) dL_isPrinted_28 ⟨Nat.le_of_ble_eq_true rfl, Nat.le_of_ble_eq_true rfl⟩) (fun r384 h385 => ?_)
      obtain rfl : r384 = nI (S 10 1) := h385.trans (pq_co5)
      have := hI.1.pap
      refine kx_icmp_gt (tgt := 38) hx hb (by decide) (by omega) dL_isPrinted_31 (by decide) (fun c386 => by exfalso; omega) (fun c386 => ?_)
      refine lv_iconst (v := nI 1) hx hb dL_isPrinted_34 (by decide) ?_
      refine lv_goto (tgt := 39) hx hb dL_isPrinted_35 (by decide) ?_
      refine lv_istore_n (lv' := [(3, .int (nI 1)), (0, .ref (L 0 0)), (1, .int (nI f)), (2, .int (nI 3))]) hx hb dL_isPrinted_39 rfl hl (by decide) rfl (fun ls hl => ?_)
      refine lv_aload_n hx hb dL_isPrinted_40 rfl (lv_at hl 1 rfl) ?_
      refine lv_iconst (v := nI 5) hx hb dL_isPrinted_41 (by decide) ?_
      refine vp_callSi (W.runV (As := [.int (nI 5)]) (rest := []) ⟨hx, hb, hml, hown, hts⟩ (k_X3_count l D y L S Bs pi kn Gs sv U Bs Gs (nI 5) hI.1) (cwV 1 hts gL_isPrinted_X3_count rfl rfl rfl hd_X3_count ⟨Nat.le_of_ble_eq_true rfl, Nat.le_of_ble_eq_true rfl⟩) ⟨pm_ron_blind, va_recv hK hP (ci := 3) (q0 := 0) rfl rfl, pm_ron_pre hP hK hN⟩ rfl rfl hl.1 rfl (lv_room (Nat.le_of_ble_eq_true rfl)) dL_isPrinted_42 ⟨Nat.le_of_ble_eq_true rfl, Nat.le_of_ble_eq_true rfl⟩) (fun r387 h388 => ?_)
      obtain rfl : r387 = nI (S 10 1) := h388.trans (pq_co5)
      have := hI.1.pap
      refine lv_istore (lv' := [(4, .int (nI (S 10 1))), (3, .int (nI 1)), (0, .ref (L 0 0)), (1, .int (nI f)), (2, .int (nI 3))]) hx hb dL_isPrinted_45 hl (by decide) rfl (fun ls hl => ?_)
      refine lv_aload_n hx hb dL_isPrinted_47 rfl (lv_at hl 2 rfl) ?_
      refine lv_bipush (v := nI 6) hx hb dL_isPrinted_48 (by decide) ?_
      refine vp_callSi (W.runV (As := [.int (nI 6)]) (rest := []) ⟨hx, hb, hml, hown, hts⟩ (k_X3_count l D y L S Bs pi kn Gs sv U Bs Gs (nI 6) hI.1) (cwV 1 hts gL_isPrinted_X3_count rfl rfl rfl hd_X3_count ⟨Nat.le_of_ble_eq_true rfl, Nat.le_of_ble_eq_true rfl⟩) ⟨pm_ron_blind, va_recv hK hP (ci := 3) (q0 := 0) rfl rfl, pm_ron_pre hP hK hN⟩ rfl rfl hl.1 rfl (lv_room (Nat.le_of_ble_eq_true rfl)) dL_isPrinted_50 ⟨Nat.le_of_ble_eq_true rfl, Nat.le_of_ble_eq_true rfl⟩) (fun r389 h390 => ?_)
      obtain rfl : r389 = nI (S 10 2) := h390.trans (pq_co6)
      refine lv_istore (lv' := [(5, .int (nI (S 10 2))), (4, .int (nI (S 10 1))), (3, .int (nI 1)), (0, .ref (L 0 0)), (1, .int (nI f)), (2, .int (nI 3))]) hx hb dL_isPrinted_53 hl (by decide) rfl (fun ls hl => ?_)
      refine lv_aload_n hx hb dL_isPrinted_55 rfl (lv_at hl 3 rfl) ?_
      refine lv_bipush (v := nI 6) hx hb dL_isPrinted_56 (by decide) ?_
      refine lv_iload_n hx hb dL_isPrinted_58 rfl (lv_at hl 5 rfl) ?_
      refine kx_iadd hx hb dL_isPrinted_59 ?_
      refine lv_topi (fun x391 e392 => ?_)
      obtain rfl : x391 = nI 9 := e392.trans (rfl)
      refine vp_callSi (W.runV (As := [.int (nI 9)]) (rest := []) ⟨hx, hb, hml, hown, hts⟩ (k_X3_count l D y L S Bs pi kn Gs sv U Bs Gs (nI 9) hI.1) (cwV 1 hts gL_isPrinted_X3_count rfl rfl rfl hd_X3_count ⟨Nat.le_of_ble_eq_true rfl, Nat.le_of_ble_eq_true rfl⟩) ⟨pm_ron_blind, va_recv hK hP (ci := 3) (q0 := 0) rfl rfl, pm_ron_pre hP hK hN⟩ rfl rfl hl.1 rfl (lv_room (Nat.le_of_ble_eq_true rfl)) dL_isPrinted_60 ⟨Nat.le_of_ble_eq_true rfl, Nat.le_of_ble_eq_true rfl⟩) (fun r393 h394 => ?_)
      obtain rfl : r393 = nI (S 11 3) := h394.trans (pq_co9)
      refine lv_istore (lv' := [(6, .int (nI (S 11 3))), (5, .int (nI (S 10 2))), (4, .int (nI (S 10 1))), (3, .int (nI 1)), (0, .ref (L 0 0)), (1, .int (nI f)), (2, .int (nI 3))]) hx hb dL_isPrinted_63 hl (by decide) rfl (fun ls hl => ?_)
      refine lv_aload_n hx hb dL_isPrinted_65 rfl (lv_at hl 4 rfl) ?_
      refine lv_iload_n hx hb dL_isPrinted_66 rfl (lv_at hl 5 rfl) ?_
      refine lv_iload_n hx hb dL_isPrinted_67 rfl (lv_at hl 6 rfl) ?_
      refine va_calli (va_runV (As := [.int (nI f), .int (nI 3)]) (rest := []) ⟨hx, hb, hml, hown, hts⟩ (k_X3_print l D y L S Bs pi kn Gs sv U (fun i => Bs (pi i)) Gs (nI f) (nI 3) (pq_CI hC) hI.1) (cwV 2 hts gL_isPrinted_X3_print rfl rfl rfl hd_X3_print ⟨Nat.le_of_ble_eq_true rfl, Nat.le_of_ble_eq_true rfl⟩) ⟨pm_wr_blind, va_recv hK hP (ci := 3) (q0 := 0) rfl rfl, pm_wr_pre hP hK hD⟩ rfl rfl hl.1 rfl (lv_room (Nat.le_of_ble_eq_true rfl)) dL_isPrinted_68 ⟨Nat.le_of_ble_eq_true rfl, Nat.le_of_ble_eq_true rfl⟩) hS (fun q _ h9 => pm_ad_all hD q h9) (pm_ad_all hD) (fun r395 u400 t396 H1 locs ht397 _ h401 hB398 _ hk399 hS => ?_)
      have hB398 : va_P D vwCl (pm_cl y L T (pm_ub Bs (pi kn) S) (pm_rp pi kn (nI (S 10 1 - 90))) (pm_rk kn (nI (S 10 1 - 90))) Gs sv U) H1 := by have h8 : va_P D vwCl (pm_cl y L (pm_aPrint S (nI f) (nI 3)).2 (pm_ub Bs (pi kn) S) (pm_rp pi kn (pm_aPrint S (nI f) (nI 3)).1) (pm_rk kn (pm_aPrint S (nI f) (nI 3)).1) Gs sv U) t396.heap := hB398; rw [E] at h8; rw [← ht397]; exact h8
      obtain rfl : r395 = nI (S 10 1 - 90) := h401.trans (by rw [E])
      obtain ⟨hP, hD⟩ := pm_all (D := D) (cl := vwCl) (H1 := H1) hD (w' := pm_cl y L T (pm_ub Bs (pi kn) S) (pm_rp pi kn (nI (S 10 1 - 90))) (pm_rk kn (nI (S 10 1 - 90))) Gs sv U) hB398 (pm_cl_fst ..)
      have hC402 := pq_C_r hC (nI (S 10 1 - 90))
      generalize pm_ub Bs (pi kn) S = Bs403 at hP hD
      generalize pm_rp pi kn (nI (S 10 1 - 90)) = pi404 at hP hD hC402
      generalize pm_rk kn (nI (S 10 1 - 90)) = kn405 at hP hD hC402
      generalize H1 = H at hP hS ⊢
      have hP : va_P D vwCl (pm_cl y L T Bs403 pi404 kn405 Gs sv U) H := hP
      have hD : va_D (pm_ad (pm_cl y L S Bs pi kn Gs sv U)) (pm_cl y L T Bs403 pi404 kn405 Gs sv U) := hD
      refine lv_istore (lv' := [(7, .int (nI (S 10 1 - 90))), (6, .int (nI (S 11 3))), (5, .int (nI (S 10 2))), (4, .int (nI (S 10 1))), (3, .int (nI 1)), (0, .ref (L 0 0)), (1, .int (nI f)), (2, .int (nI 3))]) hx hb dL_isPrinted_71 hl (by decide) rfl (fun ls hl => ?_)
      refine lv_iload_n hx hb dL_isPrinted_73 rfl (lv_at hl 4 rfl) ?_
      refine lv_if_ne (tgt := 100) hx hb dL_isPrinted_74 (by decide) (fun _ => ?_) (fun c406 => absurd c406 (by decide))
      refine lv_iload hx hb dL_isPrinted_100 (lv_at hl 0 rfl) ?_
      refine lv_iload hx hb dL_isPrinted_102 (lv_at hl 3 rfl) ?_
      refine lv_bipush (v := nI 10) hx hb dL_isPrinted_104 (by decide) ?_
      refine lv_iload_n hx hb dL_isPrinted_106 rfl (lv_at hl 7 rfl) ?_
      refine kx_imul hx hb dL_isPrinted_107 ?_
      refine lv_topi (fun x407 e408 => ?_)
      obtain rfl : x407 = nI 30 := e408.trans (rfl)
      refine lv_iload_n hx hb dL_isPrinted_108 rfl (lv_at hl 7 rfl) ?_
      refine kx_imul hx hb dL_isPrinted_109 ?_
      refine lv_topi (fun x409 e410 => ?_)
      obtain rfl : x409 = nI 90 := e410.trans (rfl)
      refine kx_isub hx hb (by omega) dL_isPrinted_110 ?_
      refine kx_icmp_ne (tgt := 181) hx hb (by omega) (by omega) dL_isPrinted_111 (by decide) (fun c411 => by exfalso; omega) (fun c411 => ?_)
      refine lv_aload_n hx hb dL_isPrinted_114 rfl (lv_at hl 5 rfl) ?_
      refine lv_iconst (v := nI 5) hx hb dL_isPrinted_115 (by decide) ?_
      refine vp_callSi (W.runV (As := [.int (nI 5)]) (rest := []) ⟨hx, hb, hml, hown, hts⟩ (k_X3_count l D y L T Bs403 pi404 kn405 Gs sv U Bs Gs (nI 5) hIT.1) (cwV 1 hts gL_isPrinted_X3_count rfl rfl rfl hd_X3_count ⟨Nat.le_of_ble_eq_true rfl, Nat.le_of_ble_eq_true rfl⟩) ⟨pm_ron_blind, va_recv hK hP (ci := 3) (q0 := 0) rfl rfl, pm_ron_pre hP hK hN⟩ rfl rfl hl.1 rfl (lv_room (Nat.le_of_ble_eq_true rfl)) dL_isPrinted_116 ⟨Nat.le_of_ble_eq_true rfl, Nat.le_of_ble_eq_true rfl⟩) (fun r412 h413 => ?_)
      obtain rfl : r412 = nI (T 10 1) := h413.trans (pq_co5)
      have := hIT.1.pap
      refine lv_iload hx hb dL_isPrinted_119 (lv_at hl 0 rfl) ?_
      refine kx_icmp_ne (tgt := 181) hx hb (by omega) (by omega) dL_isPrinted_121 (by decide) (fun c414 => by exfalso; omega) (fun c414 => ?_)
      refine lv_aload_n hx hb dL_isPrinted_124 rfl (lv_at hl 5 rfl) ?_
      refine lv_bipush (v := nI 6) hx hb dL_isPrinted_125 (by decide) ?_
      refine vp_callSi (W.runV (As := [.int (nI 6)]) (rest := []) ⟨hx, hb, hml, hown, hts⟩ (k_X3_count l D y L T Bs403 pi404 kn405 Gs sv U Bs Gs (nI 6) hIT.1) (cwV 1 hts gL_isPrinted_X3_count rfl rfl rfl hd_X3_count ⟨Nat.le_of_ble_eq_true rfl, Nat.le_of_ble_eq_true rfl⟩) ⟨pm_ron_blind, va_recv hK hP (ci := 3) (q0 := 0) rfl rfl, pm_ron_pre hP hK hN⟩ rfl rfl hl.1 rfl (lv_room (Nat.le_of_ble_eq_true rfl)) dL_isPrinted_127 ⟨Nat.le_of_ble_eq_true rfl, Nat.le_of_ble_eq_true rfl⟩) (fun r415 h416 => ?_)
      obtain rfl : r415 = nI (T 10 2) := h416.trans (pq_co6)
      refine lv_iload hx hb dL_isPrinted_130 (lv_at hl 2 rfl) ?_
      refine lv_bipush (v := nI 10) hx hb dL_isPrinted_132 (by decide) ?_
      refine lv_iload_n hx hb dL_isPrinted_134 rfl (lv_at hl 7 rfl) ?_
      refine kx_imul hx hb dL_isPrinted_135 ?_
      refine lv_topi (fun x417 e418 => ?_)
      obtain rfl : x417 = nI 30 := e418.trans (rfl)
      refine lv_iload_n hx hb dL_isPrinted_136 rfl (lv_at hl 7 rfl) ?_
      refine kx_imul hx hb dL_isPrinted_137 ?_
      refine lv_topi (fun x419 e420 => ?_)
      obtain rfl : x419 = nI 90 := e420.trans (rfl)
      refine lv_iadd hx hb dL_isPrinted_138 ?_
      refine lv_icmp_ne (tgt := 181) hx hb dL_isPrinted_139 (by decide) (fun c421 => by exfalso; exact c421 (by rw [t2, ← nI_add])) (fun c421 => ?_)
      refine lv_aload_n hx hb dL_isPrinted_142 rfl (lv_at hl 5 rfl) ?_
      refine lv_bipush (v := nI 6) hx hb dL_isPrinted_143 (by decide) ?_
      refine lv_iload_n hx hb dL_isPrinted_145 rfl (lv_at hl 7 rfl) ?_
      refine kx_iadd hx hb dL_isPrinted_146 ?_
      refine lv_topi (fun x422 e423 => ?_)
      obtain rfl : x422 = nI 9 := e423.trans (rfl)
      refine vp_callSi (W.runV (As := [.int (nI 9)]) (rest := []) ⟨hx, hb, hml, hown, hts⟩ (k_X3_count l D y L T Bs403 pi404 kn405 Gs sv U Bs Gs (nI 9) hIT.1) (cwV 1 hts gL_isPrinted_X3_count rfl rfl rfl hd_X3_count ⟨Nat.le_of_ble_eq_true rfl, Nat.le_of_ble_eq_true rfl⟩) ⟨pm_ron_blind, va_recv hK hP (ci := 3) (q0 := 0) rfl rfl, pm_ron_pre hP hK hN⟩ rfl rfl hl.1 rfl (lv_room (Nat.le_of_ble_eq_true rfl)) dL_isPrinted_147 ⟨Nat.le_of_ble_eq_true rfl, Nat.le_of_ble_eq_true rfl⟩) (fun r424 h425 => ?_)
      obtain rfl : r424 = nI (T 11 3) := h425.trans (pq_co9)
      refine lv_iload hx hb dL_isPrinted_150 (lv_at hl 1 rfl) ?_
      refine lv_iconst (v := nI 1) hx hb dL_isPrinted_152 (by decide) ?_
      refine lv_iadd hx hb dL_isPrinted_153 ?_
      refine lv_icmp_ne (tgt := 181) hx hb dL_isPrinted_154 (by decide) (fun c426 => by exfalso; exact c426 (by rw [t11, ← nI_add])) (fun c426 => ?_)
      refine lv_aload_n hx hb dL_isPrinted_157 rfl (lv_at hl 5 rfl) ?_
      refine lv_iload_n hx hb dL_isPrinted_158 rfl (lv_at hl 6 rfl) ?_
      refine lv_iconst (v := nI 0) hx hb dL_isPrinted_159 (by decide) ?_
      refine vp_callSi (W.runV (As := [.int (nI f), .int (nI 0)]) (rest := []) ⟨hx, hb, hml, hown, hts⟩ (k_X3_of l D y L T Bs403 pi404 kn405 Gs sv U Bs Gs (nI f) (nI 0) hIT.1) (cwV 2 hts gL_isPrinted_X3_of rfl rfl rfl hd_X3_of ⟨Nat.le_of_ble_eq_true rfl, Nat.le_of_ble_eq_true rfl⟩) ⟨pm_ro_blind, va_recv hK hP (ci := 3) (q0 := 0) rfl rfl, pm_ro_pre hP hK⟩ rfl rfl hl.1 rfl (lv_room (Nat.le_of_ble_eq_true rfl)) dL_isPrinted_160 ⟨Nat.le_of_ble_eq_true rfl, Nat.le_of_ble_eq_true rfl⟩) (fun r427 h428 => ?_)
      obtain rfl : r427 = nI (T 0 f) := h428.trans (pq_of0 (by omega))
      have := hIT.1.how f (by omega)
      refine lv_iconst (v := nI 3) hx hb dL_isPrinted_163 (by decide) ?_
      refine kx_icmp_ne (tgt := 181) hx hb (by omega) (by decide) dL_isPrinted_164 (by decide) (fun c429 => by exfalso; omega) (fun c429 => ?_)
      refine lv_aload_n hx hb dL_isPrinted_167 rfl (lv_at hl 5 rfl) ?_
      refine lv_iload_n hx hb dL_isPrinted_168 rfl (lv_at hl 6 rfl) ?_
      refine lv_iconst (v := nI 4) hx hb dL_isPrinted_169 (by decide) ?_
      refine vp_callSi (W.runV (As := [.int (nI f), .int (nI 4)]) (rest := []) ⟨hx, hb, hml, hown, hts⟩ (k_X3_of l D y L T Bs403 pi404 kn405 Gs sv U Bs Gs (nI f) (nI 4) hIT.1) (cwV 2 hts gL_isPrinted_X3_of rfl rfl rfl hd_X3_of ⟨Nat.le_of_ble_eq_true rfl, Nat.le_of_ble_eq_true rfl⟩) ⟨pm_ro_blind, va_recv hK hP (ci := 3) (q0 := 0) rfl rfl, pm_ro_pre hP hK⟩ rfl rfl hl.1 rfl (lv_room (Nat.le_of_ble_eq_true rfl)) dL_isPrinted_170 ⟨Nat.le_of_ble_eq_true rfl, Nat.le_of_ble_eq_true rfl⟩) (fun r430 h431 => ?_)
      obtain rfl : r430 = nI (T 2 f) := h431.trans (pq_of4 (by omega))
      have := hIT.1.size f (by omega)
      refine lv_iload_n hx hb dL_isPrinted_173 rfl (lv_at hl 7 rfl) ?_
      refine kx_icmp_ne (tgt := 181) hx hb (by omega) (by decide) dL_isPrinted_174 (by decide) (fun c432 => by exfalso; omega) (fun c432 => ?_)
      refine lv_iconst (v := nI 1) hx hb dL_isPrinted_177 (by decide) ?_
      refine lv_goto (tgt := 182) hx hb dL_isPrinted_178 (by decide) ?_
      exact W.zret (ty := .boolean) hx hb hr rfl (fun t ht _ => ⟨⟨_, (T, Bs403, pi404, kn405), rfl, ⟨rfl, hIT, hC402⟩, (by show va_P D vwCl (pm_cl y L T Bs403 pi404 kn405 Gs sv U) t.heap; rw [ht]; exact hP)⟩, hS.F ht⟩) hS.2.2 dL_isPrinted_182
