def pq_d (S : Nat → Nat → Nat) (k : Nat) : Nat := 10 * pm_tc (S 4 k) + (if S 0 k = 0 ∧ pm_aft S k = 1 then 1 else S 0 k) + 100 * (if S 0 k = 0 then pm_dl S k else S 1 k) + (if S 0 k = 0 then 100000 else 0)
theorem pq_d_o1 {S : Nat → Nat → Nat} {k : Nat} (h0 : S 0 k = 0) (ha : pm_aft S k = 1) : pq_d S k = 10 * pm_tc (S 4 k) + 1 + 100 * pm_dl S k + 100000 := by
  unfold pq_d
  rw [if_pos ⟨h0, ha⟩, if_pos h0, if_pos h0]
theorem pq_d_o0 {S : Nat → Nat → Nat} {k : Nat} (h0 : S 0 k = 0) (ha : ¬ pm_aft S k = 1) : pq_d S k = 10 * pm_tc (S 4 k) + 0 + 100 * pm_dl S k + 100000 := by
  unfold pq_d
  rw [if_neg (fun z => ha z.2), if_pos h0, if_pos h0, h0]
theorem pq_d_n {S : Nat → Nat → Nat} {k : Nat} (h0 : ¬ S 0 k = 0) : pq_d S k = 10 * pm_tc (S 4 k) + S 0 k + 100 * S 1 k := by
  unfold pq_d
  rw [if_neg (fun z => h0 z.1), if_neg h0, if_neg h0]
  rfl
def pq_f1 (F : Nat → Int32) (S : Nat → Nat → Nat) (k : Nat) : Nat → Int32 := fun j => if j < k then nI (pq_d S j) else F j
theorem pq_f1_0 (F : Nat → Int32) (S : Nat → Nat → Nat) : pq_f1 F S 0 = F := by
  funext j
  exact if_neg (Nat.not_lt_zero j)
theorem pq_f1_s (F : Nat → Int32) (S : Nat → Nat → Nat) (k : Nat) : upd (pq_f1 F S k) k (nI (pq_d S k)) = pq_f1 F S (k + 1) := by
  funext j
  unfold upd pq_f1
  by_cases h : j = k
  · subst h; rw [if_pos rfl, if_pos (by omega)]
  · rw [if_neg h]
    by_cases h2 : j < k
    · rw [if_pos h2, if_pos (by omega)]
    · rw [if_neg h2, if_neg (by omega)]
theorem pq_uu {G : Nat → Int32} {i : Nat} {v v1 v2 : Int32} (h : v1 = v2) : upd (upd G i v) i v1 = upd G i v2 := by
  funext j
  unfold upd
  split
  · exact h
  · rfl
theorem pq_fn_p {S : Nat → Nat → Nat} {x k : Nat} (hA : S 0 k = 0 ∧ pm_aft S k = 1) : pq_fn S x (k + 1) = pq_fn S x k + if pm_mk (S 4 k) x = 1 then 1 else 0 := by
  unfold pq_fn
  rw [pm_num]
  by_cases h : pm_mk (S 4 k) x = 1
  · rw [if_pos h, if_pos (decide_eq_true ⟨hA.1, hA.2, h⟩)]
  · rw [if_neg h, if_neg (fun z => h (of_decide_eq_true z).2.2)]
theorem pq_fn_n {S : Nat → Nat → Nat} {x k : Nat} (hA : ¬ (S 0 k = 0 ∧ pm_aft S k = 1)) : pq_fn S x (k + 1) = pq_fn S x k := by
  unfold pq_fn
  rw [pm_num, if_neg (fun z => hA ⟨(of_decide_eq_true z).1, (of_decide_eq_true z).2.1⟩)]
  rfl
theorem pq_wya {S : Nat → Nat → Nat} {k : Nat} (hI : pq_I S) (hk : k < 30) : pq_wy S k = 0 ↔ (S 0 k = 0 ∧ pm_aft S k = 1) := by
  have hn := pq_whn (S := S) hk
  have h4 := pq_wy4 S k
  by_cases h0 : S 0 k = 0
  · rcases pq_open hI hk h0 with ⟨-, -, hw, ha, -⟩ | ⟨-, -, hw, ha, -⟩ | ⟨-, -, -, -, hw, ha, -⟩ | ⟨-, -, -, -, hw, ha, -⟩ | ⟨-, -, -, -, -, hw, ha, -⟩ | ⟨-, -, -, -, -, hw, ha, -⟩ <;>
      (have e := (nI_eq (by omega) (by decide)).mp (hn.symm.trans hw)
       rw [e, ha]
       simp [h0])
  · have hw := (pq_shut hI hk h0).2.2.2
    have e := (nI_eq (by omega) (by decide)).mp (hn.symm.trans hw)
    rw [e]
    simp [h0]
theorem pq_c3 {S T : Nat → Nat → Nat} (hR : pq_R S T) : pm_hm T 2 30 = pm_bc S 2 30 + pm_hm S 2 30 := by
  refine pm_num_add 30 (fun k hk => ?_)
  have a0 := (hR.1 k hk).1
  simp only [decide_eq_true_eq, a0]
  by_cases h0 : S 0 k = 0
  · rw [if_pos h0]; omega
  · rw [if_neg h0]; omega
theorem pq_c1 {S T : Nat → Nat → Nat} (hR : pq_R S T) : pm_hm T 0 30 = pm_bc S 0 30 := by
  refine pm_num_eq 30 (fun k hk => ?_)
  have a0 := (hR.1 k hk).1
  refine decide_eq_decide.mpr ?_
  rw [a0]
  by_cases h0 : S 0 k = 0
  · rw [if_pos h0]; omega
  · rw [if_neg h0]; omega
theorem pq_t5 {a t : Nat} (h : t = if 20 < a + 2 then 20 else a + 2) : (20 < a + 2 ∧ t = 20) ∨ (¬ 20 < a + 2 ∧ t = a + 2) := by
  by_cases h2 : 20 < a + 2
  · rw [if_pos h2] at h; exact Or.inl ⟨h2, h⟩
  · rw [if_neg h2] at h; exact Or.inr ⟨h2, h⟩
theorem pq_Z (F : Nat → Int32) (S : Nat → Nat → Nat) : ∃ Z : Nat → Int32, upd (upd (upd (upd (upd (upd (pq_f1 F S 30) 30 (nI (S 5 0))) 33 (nI (S 8 0 + pq_fn S 0 30))) 31 (nI (S 5 1))) 34 (nI (S 8 1 + pq_fn S 1 30))) 32 (nI (S 5 2))) 35 (nI (S 8 2 + pq_fn S 2 30)) = Z ∧ (∀ k, k < 30 → Z k = nI (pq_d S k)) ∧ (∀ x, x < 3 → Z (30 + x) = nI (S 5 x)) ∧ (∀ x, x < 3 → Z (33 + x) = nI (S 8 x + pq_fn S x 30)) := by
  refine ⟨_, rfl, fun k hk => ?_, fun x hx => ?_, fun x hx => ?_⟩
  · unfold upd pq_f1
    rw [if_neg (by omega), if_neg (by omega), if_neg (by omega), if_neg (by omega), if_neg (by omega), if_neg (by omega), if_pos hk]
  · rcases (show x = 0 ∨ x = 1 ∨ x = 2 by omega) with rfl | rfl | rfl <;> rfl
  · rcases (show x = 0 ∨ x = 1 ∨ x = 2 by omega) with rfl | rfl | rfl <;> rfl

set_option maxHeartbeats 4000000 in
set_option maxRecDepth 100000 in
theorem k_L_isRound (l : Launch) (D : va_G) (y : Nat → ClassId) (L : Nat → Nat → Nat) (S : Nat → Nat → Nat) (Bs : Nat → Nat → Nat → Nat) (pi : Nat → Nat) (kn : Nat) (Gs : Nat → Nat → Nat → Nat) (sv : Nat → Nat) (U : pm_PT) (dd : Nat) (F : Nat → Int32) (hI : pq_I S) (hC : pq_C pi kn) : Met l yL_isRound wsL_isRound ({ frames := 6, cells := 0, slots := 0, locals := 129 } : Room) (pm_wrn D (pm_ty y) [.ref (L 0 0), .ref dd] ((dd, .inl ((y 0), 36, .inl F)) :: pm_cl y L S Bs pi kn Gs sv U)) (pm_Qi D (fun (r : Int32) (u : pq_T × (Nat → Int32)) => r = nI 1 ∧ pq_I u.1.1 ∧ pq_C u.1.2.2.1 u.1.2.2.2) (fun (u : pq_T × (Nat → Int32)) => (dd, .inl (y 0, 36, .inl u.2)) :: pm_cl y L u.1.1 u.1.2.1 u.1.2.2.1 u.1.2.2.2 Gs sv U) ((dd, .inl ((y 0), 36, .inl F)) :: pm_cl y L S Bs pi kn Gs sv U)) 0 0 (pm_ad ((dd, .inl ((y 0), 36, .inl F)) :: pm_cl y L S Bs pi kn Gs sv U)) := by
  refine Met.ofW (cc := cL_isRound) (maxL := 12) (ret := (some .boolean)) (by decide) rfl ?_
  intro p e s m args below meth c s₁ B hml hpre
  obtain ⟨rfl, ⟨hP, hK, hD0⟩, hN⟩ := hpre
  have hx := B.exec
  have hb := B.bytes
  have hr := B.returns
  have hts := atoms_spec (ws := wsL_isRound) B.pre
  have hown : s.vm.findClass RL = some m.cls := findClass_of_methodNamed B.named
  have hlocks := B.notSynchronized
  have hin3 : ∀ w ∈ u_ws RX3 TX3 5, w ∈ wsL_isRound := fun w h => List.mem_cons_of_mem _ (List.mem_append_left _ (List.mem_append_left _ (List.mem_append_left _ (List.mem_append_right _ h))))
  have hin2 : ∀ w ∈ u_ws RX2 TX2 15, w ∈ wsL_isRound := fun w h => List.mem_cons_of_mem _ (List.mem_append_left _ (List.mem_append_left _ (List.mem_append_right _ h)))
  have hin1 : ∀ w ∈ u_ws RX1 TX1 8, w ∈ wsL_isRound := fun w h => List.mem_cons_of_mem _ (List.mem_append_left _ (List.mem_append_right _ h))
  have hin0 : ∀ w ∈ u_ws RX0 TX0 2, w ∈ wsL_isRound := fun w h => List.mem_cons_of_mem _ (List.mem_append_right _ h)
  have hD := pm_ad_self hD0
  have hS : va_S (pm_ad ((dd, .inl ((y 0), 36, .inl F)) :: pm_cl y L S Bs pi kn Gs sv U)) s.heap s.heap [] := va_S.rf
  have hP : va_P D vwCl ((dd, .inl ((y 0), 36, .inl F)) :: pm_cl y L S Bs pi kn Gs sv U) s.heap := hP
  have hl := lv_entry ([.ref (L 0 0), .ref dd]) (n := 12) (Nat.le_of_ble_eq_true rfl)
  rw [lg_entry_eq]
  generalize (lg_sl ([.ref (L 0 0), .ref dd]) ++ List.replicate (12 - (lg_sl ([.ref (L 0 0), .ref dd])).length) Slot.unset).toArray = ls at hl ⊢
  have hl : lv_has ls 12 [(0, .ref (L 0 0)), (1, .ref dd)] := hl
  refine lv_aload_n hx hb dL_isRound_0 rfl (lv_at hl 0 rfl) ?_
  refine lv_iconst (v := nI 0) hx hb dL_isRound_1 (by decide) ?_
  have hPc : va_P D vwCl (pm_cl y L S Bs pi kn Gs sv U) s.heap := pq_cut hP
  refine vp_callSi (W.runV (As := [.int (nI 0)]) (rest := []) ⟨hx, hb, hml, hown, hts⟩ (k_X3_ifRound l D y L S Bs pi kn Gs sv U Bs Gs (nI 0) hI.1) (cwV 1 hts gL_isRound_X3_ifRound rfl rfl rfl hd_X3_ifRound ⟨Nat.le_of_ble_eq_true rfl, Nat.le_of_ble_eq_true rfl⟩) ⟨pm_ro_blind, va_recv hK hPc (ci := 3) (q0 := 0) rfl rfl, pm_ro_pre hPc hK⟩ rfl rfl hl.1 rfl (lv_room (Nat.le_of_ble_eq_true rfl)) dL_isRound_2 ⟨Nat.le_of_ble_eq_true rfl, Nat.le_of_ble_eq_true rfl⟩) (fun r1 h2 => ?_)
  obtain rfl : r1 = nI (pm_bc S 1 30) := h2.trans (pq_if0)
  have := pq_bc_le S 1 30
  refine lv_istore_n (lv' := [(2, .int (nI (pm_bc S 1 30))), (0, .ref (L 0 0)), (1, .ref dd)]) hx hb dL_isRound_5 rfl hl (by decide) rfl (fun ls hl => ?_)
  refine lv_aload_n hx hb dL_isRound_6 rfl (lv_at hl 1 rfl) ?_
  refine lv_iconst (v := nI 1) hx hb dL_isRound_7 (by decide) ?_
  have hPc : va_P D vwCl (pm_cl y L S Bs pi kn Gs sv U) s.heap := pq_cut hP
  refine vp_callSi (W.runV (As := [.int (nI 1)]) (rest := []) ⟨hx, hb, hml, hown, hts⟩ (k_X3_ifRound l D y L S Bs pi kn Gs sv U Bs Gs (nI 1) hI.1) (cwV 1 hts gL_isRound_X3_ifRound rfl rfl rfl hd_X3_ifRound ⟨Nat.le_of_ble_eq_true rfl, Nat.le_of_ble_eq_true rfl⟩) ⟨pm_ro_blind, va_recv hK hPc (ci := 3) (q0 := 0) rfl rfl, pm_ro_pre hPc hK⟩ rfl rfl hl.1 rfl (lv_room (Nat.le_of_ble_eq_true rfl)) dL_isRound_8 ⟨Nat.le_of_ble_eq_true rfl, Nat.le_of_ble_eq_true rfl⟩) (fun r3 h4 => ?_)
  obtain rfl : r3 = nI (pm_bc S 2 30) := h4.trans (pq_if1)
  have := pq_bc_le S 2 30
  refine lv_aload_n hx hb dL_isRound_11 rfl (lv_at hl 1 rfl) ?_
  refine lv_iconst (v := nI 3) hx hb dL_isRound_12 (by decide) ?_
  have hPc : va_P D vwCl (pm_cl y L S Bs pi kn Gs sv U) s.heap := pq_cut hP
  refine vp_callSi (W.runV (As := [.int (nI 3)]) (rest := [.int (nI (pm_bc S 2 30))]) ⟨hx, hb, hml, hown, hts⟩ (k_X3_count l D y L S Bs pi kn Gs sv U Bs Gs (nI 3) hI.1) (cwV 1 hts gL_isRound_X3_count rfl rfl rfl hd_X3_count ⟨Nat.le_of_ble_eq_true rfl, Nat.le_of_ble_eq_true rfl⟩) ⟨pm_ron_blind, va_recv hK hPc (ci := 3) (q0 := 0) rfl rfl, pm_ron_pre hPc hK hN⟩ rfl rfl hl.1 rfl (lv_room (Nat.le_of_ble_eq_true rfl)) dL_isRound_13 ⟨Nat.le_of_ble_eq_true rfl, Nat.le_of_ble_eq_true rfl⟩) (fun r5 h6 => ?_)
  obtain rfl : r5 = nI (pm_hm S 2 30) := h6.trans (pq_co3)
  have := pq_hm_le S 2 30
  refine kx_iadd hx hb dL_isRound_16 ?_
  refine lv_istore_n (lv' := [(3, .int (nI ((pm_bc S 2 30) + (pm_hm S 2 30)))), (2, .int (nI (pm_bc S 1 30))), (0, .ref (L 0 0)), (1, .ref dd)]) hx hb dL_isRound_17 rfl hl (by decide) rfl (fun ls hl => ?_)
  refine lv_aload_n hx hb dL_isRound_18 rfl (lv_at hl 2 rfl) ?_
  refine lv_iconst (v := nI 2) hx hb dL_isRound_19 (by decide) ?_
  have hPc : va_P D vwCl (pm_cl y L S Bs pi kn Gs sv U) s.heap := pq_cut hP
  refine vp_callSi (W.runV (As := [.int (nI 2)]) (rest := []) ⟨hx, hb, hml, hown, hts⟩ (k_X3_ifRound l D y L S Bs pi kn Gs sv U Bs Gs (nI 2) hI.1) (cwV 1 hts gL_isRound_X3_ifRound rfl rfl rfl hd_X3_ifRound ⟨Nat.le_of_ble_eq_true rfl, Nat.le_of_ble_eq_true rfl⟩) ⟨pm_ro_blind, va_recv hK hPc (ci := 3) (q0 := 0) rfl rfl, pm_ro_pre hPc hK⟩ rfl rfl hl.1 rfl (lv_room (Nat.le_of_ble_eq_true rfl)) dL_isRound_20 ⟨Nat.le_of_ble_eq_true rfl, Nat.le_of_ble_eq_true rfl⟩) (fun r7 h8 => ?_)
  obtain rfl : r7 = nI (pm_bc S 0 30) := h8.trans (pq_if2)
  have := pq_bc_le S 0 30
  refine lv_istore (lv' := [(4, .int (nI (pm_bc S 0 30))), (3, .int (nI ((pm_bc S 2 30) + (pm_hm S 2 30)))), (2, .int (nI (pm_bc S 1 30))), (0, .ref (L 0 0)), (1, .ref dd)]) hx hb dL_isRound_23 hl (by decide) rfl (fun ls hl => ?_)
  refine lv_aload_n hx hb dL_isRound_25 rfl (lv_at hl 3 rfl) ?_
  refine lv_iconst (v := nI 0) hx hb dL_isRound_26 (by decide) ?_
  have hPc : va_P D vwCl (pm_cl y L S Bs pi kn Gs sv U) s.heap := pq_cut hP
  refine vp_callSi (W.runV (As := [.int (nI 0)]) (rest := []) ⟨hx, hb, hml, hown, hts⟩ (k_X3_count l D y L S Bs pi kn Gs sv U Bs Gs (nI 0) hI.1) (cwV 1 hts gL_isRound_X3_count rfl rfl rfl hd_X3_count ⟨Nat.le_of_ble_eq_true rfl, Nat.le_of_ble_eq_true rfl⟩) ⟨pm_ron_blind, va_recv hK hPc (ci := 3) (q0 := 0) rfl rfl, pm_ron_pre hPc hK hN⟩ rfl rfl hl.1 rfl (lv_room (Nat.le_of_ble_eq_true rfl)) dL_isRound_27 ⟨Nat.le_of_ble_eq_true rfl, Nat.le_of_ble_eq_true rfl⟩) (fun r9 h10 => ?_)
  obtain rfl : r9 = nI (S 10 0) := h10.trans (pq_co0)
  have := hI.1.rnd
  refine lv_istore (lv' := [(5, .int (nI (S 10 0))), (4, .int (nI (pm_bc S 0 30))), (3, .int (nI ((pm_bc S 2 30) + (pm_hm S 2 30)))), (2, .int (nI (pm_bc S 1 30))), (0, .ref (L 0 0)), (1, .ref dd)]) hx hb dL_isRound_30 hl (by decide) rfl (fun ls hl => ?_)
  have hP : va_P D vwCl ((dd, .inl ((y 0), 36, .inl (pq_f1 F S 0))) :: pm_cl y L S Bs pi kn Gs sv U) s.heap := by rw [pq_f1_0]; exact hP
  have hD : va_D (pm_ad ((dd, .inl ((y 0), 36, .inl F)) :: pm_cl y L S Bs pi kn Gs sv U)) ((dd, .inl ((y 0), 36, .inl (pq_f1 F S 0))) :: pm_cl y L S Bs pi kn Gs sv U) := by rw [pq_f1_0]; exact hD
  refine lv_iconst (v := nI 0) hx hb dL_isRound_32 (by decide) ?_
  refine lv_istore (lv' := [(6, .int (nI 0)), (5, .int (nI (S 10 0))), (4, .int (nI (pm_bc S 0 30))), (3, .int (nI ((pm_bc S 2 30) + (pm_hm S 2 30)))), (2, .int (nI (pm_bc S 1 30))), (0, .ref (L 0 0)), (1, .ref dd)]) hx hb dL_isRound_33 hl (by decide) rfl (fun ls hl => ?_)
  have LOOP35 : ∀ (n k : Nat) (ls : Array Slot) (H : Heap) (locs : List Loc), va_P D vwCl ((dd, .inl ((y 0), 36, .inl (pq_f1 F S k))) :: pm_cl y L S Bs pi kn Gs sv U) H → va_D (pm_ad ((dd, .inl ((y 0), 36, .inl F)) :: pm_cl y L S Bs pi kn Gs sv U)) ((dd, .inl ((y 0), 36, .inl (pq_f1 F S k))) :: pm_cl y L S Bs pi kn Gs sv U) → va_S (pm_ad ((dd, .inl ((y 0), 36, .inl F)) :: pm_cl y L S Bs pi kn Gs sv U)) s.heap H locs → k ≤ 30 → 30 - k < n → lv_has ls 12 [(0, .ref (L 0 0)), (1, .ref dd), (2, .int (nI (pm_bc S 1 30))), (3, .int (nI (pm_bc S 2 30 + pm_hm S 2 30))), (4, .int (nI (pm_bc S 0 30))), (5, .int (nI (S 10 0))), (6, .int (nI k))] → W p l e (headSpec wsL_isRound ({ frames := 6, cells := 0, slots := 0, locals := 129 } : Room)).room s m ([.ref (L 0 0), .ref dd] : List Value).toArray below meth c H locs 0 0 (MQ below (pm_Qi D (fun (r : Int32) (u : pq_T × (Nat → Int32)) => r = nI 1 ∧ pq_I u.1.1 ∧ pq_C u.1.2.2.1 u.1.2.2.2) (fun (u : pq_T × (Nat → Int32)) => (dd, .inl (y 0, 36, .inl u.2)) :: pm_cl y L u.1.1 u.1.2.1 u.1.2.2.1 u.1.2.2.2 Gs sv U) ((dd, .inl ((y 0), 36, .inl F)) :: pm_cl y L S Bs pi kn Gs sv U)) ([.ref (L 0 0), .ref dd] : List Value).toArray s 0 0 (pm_ad ((dd, .inl ((y 0), 36, .inl F)) :: pm_cl y L S Bs pi kn Gs sv U))) (F0 m 35 ls []) := by
    intro n
    induction n with
    | zero => intro k _ _ _ _ _ _ hi hn; omega
    | succ n ih11 =>
      intro k ls H locs  hP hD hS hi_k hn_k hl 
      refine lv_iload hx hb dL_isRound_35 (lv_at hl 6 rfl) ?_
      refine lv_bipush (v := nI 30) hx hb dL_isRound_37 (by decide) ?_
      refine kx_icmp_ge (tgt := 169) hx hb (by omega) (by decide) dL_isRound_39 (by decide) (fun c12 => ?_) (fun c12 => ?_)
      · skip
        obtain rfl : k = 30 := by omega
        refine lv_iconst (v := nI 0) hx hb dL_isRound_169 (by decide) ?_
        refine lv_istore (lv' := [(6, .int (nI 0)), (0, .ref (L 0 0)), (1, .ref dd), (2, .int (nI (pm_bc S 1 30))), (3, .int (nI (pm_bc S 2 30 + pm_hm S 2 30))), (4, .int (nI (pm_bc S 0 30))), (5, .int (nI (S 10 0)))]) hx hb dL_isRound_170 hl (by decide) rfl (fun ls hl => ?_)
        refine lv_iload hx hb dL_isRound_172 (lv_at hl 0 rfl) ?_
        refine lv_iconst (v := nI 3) hx hb dL_isRound_174 (by decide) ?_
        refine lv_icmp_ge (tgt := 264) hx hb dL_isRound_175 (by decide) (fun c13 => absurd c13 (by decide)) (fun _ => ?_)
        refine lv_aload_n hx hb dL_isRound_178 rfl (lv_at hl 2 rfl) ?_
        refine lv_bipush (v := nI 30) hx hb dL_isRound_179 (by decide) ?_
        refine lv_iload hx hb dL_isRound_181 (lv_at hl 0 rfl) ?_
        refine kx_iadd hx hb dL_isRound_183 ?_
        refine lv_topi (fun x14 e15 => ?_)
        obtain rfl : x14 = nI 30 := e15.trans (rfl)
        refine lv_aload_n hx hb dL_isRound_184 rfl (lv_at hl 1 rfl) ?_
        refine lv_iload hx hb dL_isRound_185 (lv_at hl 0 rfl) ?_
        refine lv_iconst (v := nI 0) hx hb dL_isRound_187 (by decide) ?_
        have hPc : va_P D vwCl (pm_cl y L S Bs pi kn Gs sv U) H := pq_cut hP
        refine vp_callSi (W.runV (As := [.int (nI 0), .int (nI 0)]) (rest := [.int (nI 30), .ref dd]) ⟨hx, hb, hml, hown, hts⟩ (k_X3_editor l D y L S Bs pi kn Gs sv U Bs Gs (nI 0) (nI 0) hI.1) (cwV 2 hts gL_isRound_X3_editor rfl rfl rfl hd_X3_editor ⟨Nat.le_of_ble_eq_true rfl, Nat.le_of_ble_eq_true rfl⟩) ⟨pm_ro_blind, va_recv hK hPc (ci := 3) (q0 := 0) rfl rfl, pm_ro_pre hPc hK⟩ rfl rfl hl.1 rfl (lv_room (Nat.le_of_ble_eq_true rfl)) dL_isRound_188 ⟨Nat.le_of_ble_eq_true rfl, Nat.le_of_ble_eq_true rfl⟩) (fun r16 h17 => ?_)
        obtain rfl : r16 = nI (S 5 0) := h17.trans (pq_ed0 (by omega))
        have := hI.1.pts 0 (by omega)
        refine kx_iast (ws' := (dd, .inl ((y 0), 36, .inl (upd (pq_f1 F S 30) 30 (nI (S 5 0))))) :: pm_cl y L S Bs pi kn Gs sv U) hx hb hK hP hD hS 0 0 rfl rfl (by decide) (by decide) rfl rfl dL_isRound_191 (fun H locs hP hD hS => ?_)
        refine lv_aload_n hx hb dL_isRound_192 rfl (lv_at hl 2 rfl) ?_
        refine lv_bipush (v := nI 33) hx hb dL_isRound_193 (by decide) ?_
        refine lv_iload hx hb dL_isRound_195 (lv_at hl 0 rfl) ?_
        refine kx_iadd hx hb dL_isRound_197 ?_
        refine lv_topi (fun x18 e19 => ?_)
        obtain rfl : x18 = nI 33 := e19.trans (rfl)
        refine lv_aload_n hx hb dL_isRound_198 rfl (lv_at hl 1 rfl) ?_
        refine lv_iload hx hb dL_isRound_199 (lv_at hl 0 rfl) ?_
        refine lv_bipush (v := nI 6) hx hb dL_isRound_201 (by decide) ?_
        have hPc : va_P D vwCl (pm_cl y L S Bs pi kn Gs sv U) H := pq_cut hP
        refine vp_callSi (W.runV (As := [.int (nI 0), .int (nI 6)]) (rest := [.int (nI 33), .ref dd]) ⟨hx, hb, hml, hown, hts⟩ (k_X3_editor l D y L S Bs pi kn Gs sv U Bs Gs (nI 0) (nI 6) hI.1) (cwV 2 hts gL_isRound_X3_editor rfl rfl rfl hd_X3_editor ⟨Nat.le_of_ble_eq_true rfl, Nat.le_of_ble_eq_true rfl⟩) ⟨pm_ro_blind, va_recv hK hPc (ci := 3) (q0 := 0) rfl rfl, pm_ro_pre hPc hK⟩ rfl rfl hl.1 rfl (lv_room (Nat.le_of_ble_eq_true rfl)) dL_isRound_203 ⟨Nat.le_of_ble_eq_true rfl, Nat.le_of_ble_eq_true rfl⟩) (fun r20 h21 => ?_)
        obtain rfl : r20 = nI (S 8 0) := h21.trans (pq_ed6 (by omega))
        refine kx_iast (ws' := (dd, .inl ((y 0), 36, .inl (upd (upd (pq_f1 F S 30) 30 (nI (S 5 0))) 33 (nI (S 8 0))))) :: pm_cl y L S Bs pi kn Gs sv U) hx hb hK hP hD hS 0 0 rfl rfl (by decide) (by decide) rfl rfl dL_isRound_206 (fun H locs hP hD hS => ?_)
        refine lv_iconst (v := nI 0) hx hb dL_isRound_207 (by decide) ?_
        refine lv_istore (lv' := [(7, .int (nI 0)), (6, .int (nI 0)), (0, .ref (L 0 0)), (1, .ref dd), (2, .int (nI (pm_bc S 1 30))), (3, .int (nI (pm_bc S 2 30 + pm_hm S 2 30))), (4, .int (nI (pm_bc S 0 30))), (5, .int (nI (S 10 0)))]) hx hb dL_isRound_208 hl (by decide) rfl (fun ls hl => ?_)
        have LOOP210 : ∀ (n k : Nat) (ls : Array Slot) (H : Heap) (locs : List Loc), va_P D vwCl ((dd, .inl ((y 0), 36, .inl (upd (upd (pq_f1 F S 30) 30 (nI (S 5 0))) 33 (nI (S 8 0 + pq_fn S 0 k))))) :: pm_cl y L S Bs pi kn Gs sv U) H → va_D (pm_ad ((dd, .inl ((y 0), 36, .inl F)) :: pm_cl y L S Bs pi kn Gs sv U)) ((dd, .inl ((y 0), 36, .inl (upd (upd (pq_f1 F S 30) 30 (nI (S 5 0))) 33 (nI (S 8 0 + pq_fn S 0 k))))) :: pm_cl y L S Bs pi kn Gs sv U) → va_S (pm_ad ((dd, .inl ((y 0), 36, .inl F)) :: pm_cl y L S Bs pi kn Gs sv U)) s.heap H locs → k ≤ 30 → 30 - k < n → lv_has ls 12 [(0, .ref (L 0 0)), (1, .ref dd), (2, .int (nI (pm_bc S 1 30))), (3, .int (nI (pm_bc S 2 30 + pm_hm S 2 30))), (4, .int (nI (pm_bc S 0 30))), (5, .int (nI (S 10 0))), (6, .int (nI 0)), (7, .int (nI k))] → W p l e (headSpec wsL_isRound ({ frames := 6, cells := 0, slots := 0, locals := 129 } : Room)).room s m ([.ref (L 0 0), .ref dd] : List Value).toArray below meth c H locs 0 0 (MQ below (pm_Qi D (fun (r : Int32) (u : pq_T × (Nat → Int32)) => r = nI 1 ∧ pq_I u.1.1 ∧ pq_C u.1.2.2.1 u.1.2.2.2) (fun (u : pq_T × (Nat → Int32)) => (dd, .inl (y 0, 36, .inl u.2)) :: pm_cl y L u.1.1 u.1.2.1 u.1.2.2.1 u.1.2.2.2 Gs sv U) ((dd, .inl ((y 0), 36, .inl F)) :: pm_cl y L S Bs pi kn Gs sv U)) ([.ref (L 0 0), .ref dd] : List Value).toArray s 0 0 (pm_ad ((dd, .inl ((y 0), 36, .inl F)) :: pm_cl y L S Bs pi kn Gs sv U))) (F0 m 210 ls []) := by
          intro n
          induction n with
          | zero => intro k _ _ _ _ _ _ hi hn; omega
          | succ n ih22 =>
            intro k ls H locs  hP hD hS hi_k hn_k hl 
            refine lv_iload hx hb dL_isRound_210 (lv_at hl 7 rfl) ?_
            refine lv_bipush (v := nI 30) hx hb dL_isRound_212 (by decide) ?_
            refine kx_icmp_ge (tgt := 258) hx hb (by omega) (by decide) dL_isRound_214 (by decide) (fun c23 => ?_) (fun c23 => ?_)
            · skip
              obtain rfl : k = 30 := by omega
              refine lv_iinc (v := nI 1) (lv' := [(6, .int (nI 1)), (0, .ref (L 0 0)), (1, .ref dd), (2, .int (nI (pm_bc S 1 30))), (3, .int (nI (pm_bc S 2 30 + pm_hm S 2 30))), (4, .int (nI (pm_bc S 0 30))), (5, .int (nI (S 10 0))), (7, .int (nI 30))]) hx hb dL_isRound_258 hl (k := 6) rfl (by decide) (by decide) rfl (fun ls hl => ?_)
              refine lv_goto (tgt := 172) hx hb dL_isRound_261 (by decide) ?_
              refine lv_iload hx hb dL_isRound_172 (lv_at hl 0 rfl) ?_
              refine lv_iconst (v := nI 3) hx hb dL_isRound_174 (by decide) ?_
              refine lv_icmp_ge (tgt := 264) hx hb dL_isRound_175 (by decide) (fun c24 => absurd c24 (by decide)) (fun _ => ?_)
              refine lv_aload_n hx hb dL_isRound_178 rfl (lv_at hl 2 rfl) ?_
              refine lv_bipush (v := nI 30) hx hb dL_isRound_179 (by decide) ?_
              refine lv_iload hx hb dL_isRound_181 (lv_at hl 0 rfl) ?_
              refine kx_iadd hx hb dL_isRound_183 ?_
              refine lv_topi (fun x25 e26 => ?_)
              obtain rfl : x25 = nI 31 := e26.trans (rfl)
              refine lv_aload_n hx hb dL_isRound_184 rfl (lv_at hl 1 rfl) ?_
              refine lv_iload hx hb dL_isRound_185 (lv_at hl 0 rfl) ?_
              refine lv_iconst (v := nI 0) hx hb dL_isRound_187 (by decide) ?_
              have hPc : va_P D vwCl (pm_cl y L S Bs pi kn Gs sv U) H := pq_cut hP
              refine vp_callSi (W.runV (As := [.int (nI 1), .int (nI 0)]) (rest := [.int (nI 31), .ref dd]) ⟨hx, hb, hml, hown, hts⟩ (k_X3_editor l D y L S Bs pi kn Gs sv U Bs Gs (nI 1) (nI 0) hI.1) (cwV 2 hts gL_isRound_X3_editor rfl rfl rfl hd_X3_editor ⟨Nat.le_of_ble_eq_true rfl, Nat.le_of_ble_eq_true rfl⟩) ⟨pm_ro_blind, va_recv hK hPc (ci := 3) (q0 := 0) rfl rfl, pm_ro_pre hPc hK⟩ rfl rfl hl.1 rfl (lv_room (Nat.le_of_ble_eq_true rfl)) dL_isRound_188 ⟨Nat.le_of_ble_eq_true rfl, Nat.le_of_ble_eq_true rfl⟩) (fun r27 h28 => ?_)
              obtain rfl : r27 = nI (S 5 1) := h28.trans (pq_ed0 (by omega))
              have := hI.1.pts 1 (by omega)
              refine kx_iast (ws' := (dd, .inl ((y 0), 36, .inl (upd (upd (upd (pq_f1 F S 30) 30 (nI (S 5 0))) 33 (nI (S 8 0 + pq_fn S 0 30))) 31 (nI (S 5 1))))) :: pm_cl y L S Bs pi kn Gs sv U) hx hb hK hP hD hS 0 0 rfl rfl (by decide) (by decide) rfl rfl dL_isRound_191 (fun H locs hP hD hS => ?_)
              refine lv_aload_n hx hb dL_isRound_192 rfl (lv_at hl 2 rfl) ?_
              refine lv_bipush (v := nI 33) hx hb dL_isRound_193 (by decide) ?_
              refine lv_iload hx hb dL_isRound_195 (lv_at hl 0 rfl) ?_
              refine kx_iadd hx hb dL_isRound_197 ?_
              refine lv_topi (fun x29 e30 => ?_)
              obtain rfl : x29 = nI 34 := e30.trans (rfl)
              refine lv_aload_n hx hb dL_isRound_198 rfl (lv_at hl 1 rfl) ?_
              refine lv_iload hx hb dL_isRound_199 (lv_at hl 0 rfl) ?_
              refine lv_bipush (v := nI 6) hx hb dL_isRound_201 (by decide) ?_
              have hPc : va_P D vwCl (pm_cl y L S Bs pi kn Gs sv U) H := pq_cut hP
              refine vp_callSi (W.runV (As := [.int (nI 1), .int (nI 6)]) (rest := [.int (nI 34), .ref dd]) ⟨hx, hb, hml, hown, hts⟩ (k_X3_editor l D y L S Bs pi kn Gs sv U Bs Gs (nI 1) (nI 6) hI.1) (cwV 2 hts gL_isRound_X3_editor rfl rfl rfl hd_X3_editor ⟨Nat.le_of_ble_eq_true rfl, Nat.le_of_ble_eq_true rfl⟩) ⟨pm_ro_blind, va_recv hK hPc (ci := 3) (q0 := 0) rfl rfl, pm_ro_pre hPc hK⟩ rfl rfl hl.1 rfl (lv_room (Nat.le_of_ble_eq_true rfl)) dL_isRound_203 ⟨Nat.le_of_ble_eq_true rfl, Nat.le_of_ble_eq_true rfl⟩) (fun r31 h32 => ?_)
              obtain rfl : r31 = nI (S 8 1) := h32.trans (pq_ed6 (by omega))
              refine kx_iast (ws' := (dd, .inl ((y 0), 36, .inl (upd (upd (upd (upd (pq_f1 F S 30) 30 (nI (S 5 0))) 33 (nI (S 8 0 + pq_fn S 0 30))) 31 (nI (S 5 1))) 34 (nI (S 8 1))))) :: pm_cl y L S Bs pi kn Gs sv U) hx hb hK hP hD hS 0 0 rfl rfl (by decide) (by decide) rfl rfl dL_isRound_206 (fun H locs hP hD hS => ?_)
              refine lv_iconst (v := nI 0) hx hb dL_isRound_207 (by decide) ?_
              refine lv_istore (lv' := [(7, .int (nI 0)), (6, .int (nI 1)), (0, .ref (L 0 0)), (1, .ref dd), (2, .int (nI (pm_bc S 1 30))), (3, .int (nI (pm_bc S 2 30 + pm_hm S 2 30))), (4, .int (nI (pm_bc S 0 30))), (5, .int (nI (S 10 0)))]) hx hb dL_isRound_208 hl (by decide) rfl (fun ls hl => ?_)
              have LOOP210 : ∀ (n k : Nat) (ls : Array Slot) (H : Heap) (locs : List Loc), va_P D vwCl ((dd, .inl ((y 0), 36, .inl (upd (upd (upd (upd (pq_f1 F S 30) 30 (nI (S 5 0))) 33 (nI (S 8 0 + pq_fn S 0 30))) 31 (nI (S 5 1))) 34 (nI (S 8 1 + pq_fn S 1 k))))) :: pm_cl y L S Bs pi kn Gs sv U) H → va_D (pm_ad ((dd, .inl ((y 0), 36, .inl F)) :: pm_cl y L S Bs pi kn Gs sv U)) ((dd, .inl ((y 0), 36, .inl (upd (upd (upd (upd (pq_f1 F S 30) 30 (nI (S 5 0))) 33 (nI (S 8 0 + pq_fn S 0 30))) 31 (nI (S 5 1))) 34 (nI (S 8 1 + pq_fn S 1 k))))) :: pm_cl y L S Bs pi kn Gs sv U) → va_S (pm_ad ((dd, .inl ((y 0), 36, .inl F)) :: pm_cl y L S Bs pi kn Gs sv U)) s.heap H locs → k ≤ 30 → 30 - k < n → lv_has ls 12 [(0, .ref (L 0 0)), (1, .ref dd), (2, .int (nI (pm_bc S 1 30))), (3, .int (nI (pm_bc S 2 30 + pm_hm S 2 30))), (4, .int (nI (pm_bc S 0 30))), (5, .int (nI (S 10 0))), (6, .int (nI 1)), (7, .int (nI k))] → W p l e (headSpec wsL_isRound ({ frames := 6, cells := 0, slots := 0, locals := 129 } : Room)).room s m ([.ref (L 0 0), .ref dd] : List Value).toArray below meth c H locs 0 0 (MQ below (pm_Qi D (fun (r : Int32) (u : pq_T × (Nat → Int32)) => r = nI 1 ∧ pq_I u.1.1 ∧ pq_C u.1.2.2.1 u.1.2.2.2) (fun (u : pq_T × (Nat → Int32)) => (dd, .inl (y 0, 36, .inl u.2)) :: pm_cl y L u.1.1 u.1.2.1 u.1.2.2.1 u.1.2.2.2 Gs sv U) ((dd, .inl ((y 0), 36, .inl F)) :: pm_cl y L S Bs pi kn Gs sv U)) ([.ref (L 0 0), .ref dd] : List Value).toArray s 0 0 (pm_ad ((dd, .inl ((y 0), 36, .inl F)) :: pm_cl y L S Bs pi kn Gs sv U))) (F0 m 210 ls []) := by
                intro n
                induction n with
                | zero => intro k _ _ _ _ _ _ hi hn; omega
                | succ n ih33 =>
                  intro k ls H locs  hP hD hS hi_k hn_k hl 
                  refine lv_iload hx hb dL_isRound_210 (lv_at hl 7 rfl) ?_
                  refine lv_bipush (v := nI 30) hx hb dL_isRound_212 (by decide) ?_
                  refine kx_icmp_ge (tgt := 258) hx hb (by omega) (by decide) dL_isRound_214 (by decide) (fun c34 => ?_) (fun c34 => ?_)
                  · skip
                    obtain rfl : k = 30 := by omega
                    refine lv_iinc (v := nI 2) (lv' := [(6, .int (nI 2)), (0, .ref (L 0 0)), (1, .ref dd), (2, .int (nI (pm_bc S 1 30))), (3, .int (nI (pm_bc S 2 30 + pm_hm S 2 30))), (4, .int (nI (pm_bc S 0 30))), (5, .int (nI (S 10 0))), (7, .int (nI 30))]) hx hb dL_isRound_258 hl (k := 6) rfl (by decide) (by decide) rfl (fun ls hl => ?_)
                    refine lv_goto (tgt := 172) hx hb dL_isRound_261 (by decide) ?_
                    refine lv_iload hx hb dL_isRound_172 (lv_at hl 0 rfl) ?_
                    refine lv_iconst (v := nI 3) hx hb dL_isRound_174 (by decide) ?_
                    refine lv_icmp_ge (tgt := 264) hx hb dL_isRound_175 (by decide) (fun c35 => absurd c35 (by decide)) (fun _ => ?_)
                    refine lv_aload_n hx hb dL_isRound_178 rfl (lv_at hl 2 rfl) ?_
                    refine lv_bipush (v := nI 30) hx hb dL_isRound_179 (by decide) ?_
                    refine lv_iload hx hb dL_isRound_181 (lv_at hl 0 rfl) ?_
                    refine kx_iadd hx hb dL_isRound_183 ?_
                    refine lv_topi (fun x36 e37 => ?_)
                    obtain rfl : x36 = nI 32 := e37.trans (rfl)
                    refine lv_aload_n hx hb dL_isRound_184 rfl (lv_at hl 1 rfl) ?_
                    refine lv_iload hx hb dL_isRound_185 (lv_at hl 0 rfl) ?_
                    refine lv_iconst (v := nI 0) hx hb dL_isRound_187 (by decide) ?_
                    have hPc : va_P D vwCl (pm_cl y L S Bs pi kn Gs sv U) H := pq_cut hP
                    refine vp_callSi (W.runV (As := [.int (nI 2), .int (nI 0)]) (rest := [.int (nI 32), .ref dd]) ⟨hx, hb, hml, hown, hts⟩ (k_X3_editor l D y L S Bs pi kn Gs sv U Bs Gs (nI 2) (nI 0) hI.1) (cwV 2 hts gL_isRound_X3_editor rfl rfl rfl hd_X3_editor ⟨Nat.le_of_ble_eq_true rfl, Nat.le_of_ble_eq_true rfl⟩) ⟨pm_ro_blind, va_recv hK hPc (ci := 3) (q0 := 0) rfl rfl, pm_ro_pre hPc hK⟩ rfl rfl hl.1 rfl (lv_room (Nat.le_of_ble_eq_true rfl)) dL_isRound_188 ⟨Nat.le_of_ble_eq_true rfl, Nat.le_of_ble_eq_true rfl⟩) (fun r38 h39 => ?_)
                    obtain rfl : r38 = nI (S 5 2) := h39.trans (pq_ed0 (by omega))
                    have := hI.1.pts 2 (by omega)
                    refine kx_iast (ws' := (dd, .inl ((y 0), 36, .inl (upd (upd (upd (upd (upd (pq_f1 F S 30) 30 (nI (S 5 0))) 33 (nI (S 8 0 + pq_fn S 0 30))) 31 (nI (S 5 1))) 34 (nI (S 8 1 + pq_fn S 1 30))) 32 (nI (S 5 2))))) :: pm_cl y L S Bs pi kn Gs sv U) hx hb hK hP hD hS 0 0 rfl rfl (by decide) (by decide) rfl rfl dL_isRound_191 (fun H locs hP hD hS => ?_)
                    refine lv_aload_n hx hb dL_isRound_192 rfl (lv_at hl 2 rfl) ?_
                    refine lv_bipush (v := nI 33) hx hb dL_isRound_193 (by decide) ?_
                    refine lv_iload hx hb dL_isRound_195 (lv_at hl 0 rfl) ?_
                    refine kx_iadd hx hb dL_isRound_197 ?_
                    refine lv_topi (fun x40 e41 => ?_)
                    obtain rfl : x40 = nI 35 := e41.trans (rfl)
                    refine lv_aload_n hx hb dL_isRound_198 rfl (lv_at hl 1 rfl) ?_
                    refine lv_iload hx hb dL_isRound_199 (lv_at hl 0 rfl) ?_
                    refine lv_bipush (v := nI 6) hx hb dL_isRound_201 (by decide) ?_
                    have hPc : va_P D vwCl (pm_cl y L S Bs pi kn Gs sv U) H := pq_cut hP
                    refine vp_callSi (W.runV (As := [.int (nI 2), .int (nI 6)]) (rest := [.int (nI 35), .ref dd]) ⟨hx, hb, hml, hown, hts⟩ (k_X3_editor l D y L S Bs pi kn Gs sv U Bs Gs (nI 2) (nI 6) hI.1) (cwV 2 hts gL_isRound_X3_editor rfl rfl rfl hd_X3_editor ⟨Nat.le_of_ble_eq_true rfl, Nat.le_of_ble_eq_true rfl⟩) ⟨pm_ro_blind, va_recv hK hPc (ci := 3) (q0 := 0) rfl rfl, pm_ro_pre hPc hK⟩ rfl rfl hl.1 rfl (lv_room (Nat.le_of_ble_eq_true rfl)) dL_isRound_203 ⟨Nat.le_of_ble_eq_true rfl, Nat.le_of_ble_eq_true rfl⟩) (fun r42 h43 => ?_)
                    obtain rfl : r42 = nI (S 8 2) := h43.trans (pq_ed6 (by omega))
                    refine kx_iast (ws' := (dd, .inl ((y 0), 36, .inl (upd (upd (upd (upd (upd (upd (pq_f1 F S 30) 30 (nI (S 5 0))) 33 (nI (S 8 0 + pq_fn S 0 30))) 31 (nI (S 5 1))) 34 (nI (S 8 1 + pq_fn S 1 30))) 32 (nI (S 5 2))) 35 (nI (S 8 2))))) :: pm_cl y L S Bs pi kn Gs sv U) hx hb hK hP hD hS 0 0 rfl rfl (by decide) (by decide) rfl rfl dL_isRound_206 (fun H locs hP hD hS => ?_)
                    refine lv_iconst (v := nI 0) hx hb dL_isRound_207 (by decide) ?_
                    refine lv_istore (lv' := [(7, .int (nI 0)), (6, .int (nI 2)), (0, .ref (L 0 0)), (1, .ref dd), (2, .int (nI (pm_bc S 1 30))), (3, .int (nI (pm_bc S 2 30 + pm_hm S 2 30))), (4, .int (nI (pm_bc S 0 30))), (5, .int (nI (S 10 0)))]) hx hb dL_isRound_208 hl (by decide) rfl (fun ls hl => ?_)
                    have LOOP210 : ∀ (n k : Nat) (ls : Array Slot) (H : Heap) (locs : List Loc), va_P D vwCl ((dd, .inl ((y 0), 36, .inl (upd (upd (upd (upd (upd (upd (pq_f1 F S 30) 30 (nI (S 5 0))) 33 (nI (S 8 0 + pq_fn S 0 30))) 31 (nI (S 5 1))) 34 (nI (S 8 1 + pq_fn S 1 30))) 32 (nI (S 5 2))) 35 (nI (S 8 2 + pq_fn S 2 k))))) :: pm_cl y L S Bs pi kn Gs sv U) H → va_D (pm_ad ((dd, .inl ((y 0), 36, .inl F)) :: pm_cl y L S Bs pi kn Gs sv U)) ((dd, .inl ((y 0), 36, .inl (upd (upd (upd (upd (upd (upd (pq_f1 F S 30) 30 (nI (S 5 0))) 33 (nI (S 8 0 + pq_fn S 0 30))) 31 (nI (S 5 1))) 34 (nI (S 8 1 + pq_fn S 1 30))) 32 (nI (S 5 2))) 35 (nI (S 8 2 + pq_fn S 2 k))))) :: pm_cl y L S Bs pi kn Gs sv U) → va_S (pm_ad ((dd, .inl ((y 0), 36, .inl F)) :: pm_cl y L S Bs pi kn Gs sv U)) s.heap H locs → k ≤ 30 → 30 - k < n → lv_has ls 12 [(0, .ref (L 0 0)), (1, .ref dd), (2, .int (nI (pm_bc S 1 30))), (3, .int (nI (pm_bc S 2 30 + pm_hm S 2 30))), (4, .int (nI (pm_bc S 0 30))), (5, .int (nI (S 10 0))), (6, .int (nI 2)), (7, .int (nI k))] → W p l e (headSpec wsL_isRound ({ frames := 6, cells := 0, slots := 0, locals := 129 } : Room)).room s m ([.ref (L 0 0), .ref dd] : List Value).toArray below meth c H locs 0 0 (MQ below (pm_Qi D (fun (r : Int32) (u : pq_T × (Nat → Int32)) => r = nI 1 ∧ pq_I u.1.1 ∧ pq_C u.1.2.2.1 u.1.2.2.2) (fun (u : pq_T × (Nat → Int32)) => (dd, .inl (y 0, 36, .inl u.2)) :: pm_cl y L u.1.1 u.1.2.1 u.1.2.2.1 u.1.2.2.2 Gs sv U) ((dd, .inl ((y 0), 36, .inl F)) :: pm_cl y L S Bs pi kn Gs sv U)) ([.ref (L 0 0), .ref dd] : List Value).toArray s 0 0 (pm_ad ((dd, .inl ((y 0), 36, .inl F)) :: pm_cl y L S Bs pi kn Gs sv U))) (F0 m 210 ls []) := by
                      intro n
                      induction n with
                      | zero => intro k _ _ _ _ _ _ hi hn; omega
                      | succ n ih44 =>
                        intro k ls H locs  hP hD hS hi_k hn_k hl 
                        refine lv_iload hx hb dL_isRound_210 (lv_at hl 7 rfl) ?_
                        refine lv_bipush (v := nI 30) hx hb dL_isRound_212 (by decide) ?_
                        refine kx_icmp_ge (tgt := 258) hx hb (by omega) (by decide) dL_isRound_214 (by decide) (fun c45 => ?_) (fun c45 => ?_)
                        · skip
                          obtain rfl : k = 30 := by omega
                          refine lv_iinc (v := nI 3) (lv' := [(6, .int (nI 3)), (0, .ref (L 0 0)), (1, .ref dd), (2, .int (nI (pm_bc S 1 30))), (3, .int (nI (pm_bc S 2 30 + pm_hm S 2 30))), (4, .int (nI (pm_bc S 0 30))), (5, .int (nI (S 10 0))), (7, .int (nI 30))]) hx hb dL_isRound_258 hl (k := 6) rfl (by decide) (by decide) rfl (fun ls hl => ?_)
                          refine lv_goto (tgt := 172) hx hb dL_isRound_261 (by decide) ?_
                          refine lv_iload hx hb dL_isRound_172 (lv_at hl 0 rfl) ?_
                          refine lv_iconst (v := nI 3) hx hb dL_isRound_174 (by decide) ?_
                          refine lv_icmp_ge (tgt := 264) hx hb dL_isRound_175 (by decide) (fun _ => ?_) (fun c46 => (c46 (by decide)).elim)
                          obtain ⟨Z, hZ, z1, z2, z3⟩ := pq_Z F S
                          rw [hZ] at hP hD
                          have hP : va_P D vwCl ((dd, .inl ((y 0), 36, .inl Z)) :: pm_cl y L S Bs pi kn Gs sv U) H := hP
                          have hD : va_D (pm_ad ((dd, .inl ((y 0), 36, .inl F)) :: pm_cl y L S Bs pi kn Gs sv U)) ((dd, .inl ((y 0), 36, .inl Z)) :: pm_cl y L S Bs pi kn Gs sv U) := hD
                          by_cases h99 : 99 ≤ S 10 0
                          · have E : pm_aRound S = (-5, S) := by rw [pm_aRound, if_pos h99]
                            refine lv_aload_n hx hb dL_isRound_264 rfl (lv_at hl 1 rfl) ?_
                            have hPc : va_P D vwCl (pm_cl y L S Bs pi kn Gs sv U) H := pq_cut hP
                            have hDc := pq_cutD hD
                            refine va_calli (va_runV (As := []) (rest := []) ⟨hx, hb, hml, hown, hts⟩ (k_X3_round l D y L S Bs pi kn Gs sv U (fun i => Bs (pi i)) Gs (pq_CI hC) hI.1) (cwV 0 hts gL_isRound_X3_round rfl rfl rfl hd_X3_round ⟨Nat.le_of_ble_eq_true rfl, Nat.le_of_ble_eq_true rfl⟩) ⟨pm_wr_blind, va_recv hK hPc (ci := 3) (q0 := 0) rfl rfl, pm_wr_pre hPc hK hDc⟩ rfl rfl hl.1 rfl (lv_room (Nat.le_of_ble_eq_true rfl)) dL_isRound_265 ⟨Nat.le_of_ble_eq_true rfl, Nat.le_of_ble_eq_true rfl⟩) hS (fun q _ h9 => pm_ad_all hDc q h9) (pm_ad_all hDc) (fun r47 u52 t48 H1 locs ht49 _ h53 hB50 _ hk51 hS => ?_)
                            have hB50 : va_P D vwCl (pm_cl y L S (pm_ub Bs (pi kn) S) (pm_rp pi kn (-5)) (pm_rk kn (-5)) Gs sv U) H1 := by have h8 : va_P D vwCl (pm_cl y L (pm_aRound S).2 (pm_ub Bs (pi kn) S) (pm_rp pi kn (pm_aRound S).1) (pm_rk kn (pm_aRound S).1) Gs sv U) t48.heap := hB50; rw [E] at h8; rw [← ht49]; exact h8
                            obtain rfl : r47 = -5 := h53.trans (by rw [E])
                            obtain ⟨hP, hD⟩ := pq_mid (w' := pm_cl y L S (pm_ub Bs (pi kn) S) (pm_rp pi kn (-5)) (pm_rk kn (-5)) Gs sv U) hP hD hk51 hB50 (pm_cl_fst ..)
                            have hC54 := pq_C_r hC (-5)
                            generalize pm_ub Bs (pi kn) S = Bs55 at hP hD
                            generalize pm_rp pi kn (-5) = pi56 at hP hD hC54
                            generalize pm_rk kn (-5) = kn57 at hP hD hC54
                            generalize H1 = H at hP hS ⊢
                            have hP : va_P D vwCl ((dd, .inl ((y 0), 36, .inl Z)) :: pm_cl y L S Bs55 pi56 kn57 Gs sv U) H := hP
                            have hD : va_D (pm_ad ((dd, .inl ((y 0), 36, .inl F)) :: pm_cl y L S Bs pi kn Gs sv U)) ((dd, .inl ((y 0), 36, .inl Z)) :: pm_cl y L S Bs55 pi56 kn57 Gs sv U) := hD
                            refine lv_istore (lv' := [(6, .int (-5)), (0, .ref (L 0 0)), (1, .ref dd), (2, .int (nI (pm_bc S 1 30))), (3, .int (nI (pm_bc S 2 30 + pm_hm S 2 30))), (4, .int (nI (pm_bc S 0 30))), (5, .int (nI (S 10 0))), (7, .int (nI 30))]) hx hb dL_isRound_268 hl (by decide) rfl (fun ls hl => ?_)
                            refine lv_iload hx hb dL_isRound_270 (lv_at hl 6 rfl) ?_
                            refine lv_bipush (v := nI 99) hx hb dL_isRound_272 (by decide) ?_
                            refine kx_icmp_ne (tgt := 300) hx hb (by omega) (by decide) dL_isRound_274 (by decide) (fun c58 => by exfalso; omega) (fun c58 => ?_)
                            refine lv_iload hx hb dL_isRound_277 (lv_at hl 0 rfl) ?_
                            refine lv_bipush (v := (-5)) hx hb dL_isRound_279 (by decide) ?_
                            refine lv_icmp_ne (tgt := 298) hx hb dL_isRound_281 (by decide) (fun c59 => (c59 (by decide)).elim) (fun _ => ?_)
                            refine lv_aload_n hx hb dL_isRound_284 rfl (lv_at hl 1 rfl) ?_
                            refine lv_iconst (v := nI 0) hx hb dL_isRound_285 (by decide) ?_
                            have hPc : va_P D vwCl (pm_cl y L S Bs55 pi56 kn57 Gs sv U) H := pq_cut hP
                            refine vp_callSi (W.runV (As := [.int (nI 0)]) (rest := []) ⟨hx, hb, hml, hown, hts⟩ (k_X3_count l D y L S Bs55 pi56 kn57 Gs sv U Bs Gs (nI 0) hI.1) (cwV 1 hts gL_isRound_X3_count rfl rfl rfl hd_X3_count ⟨Nat.le_of_ble_eq_true rfl, Nat.le_of_ble_eq_true rfl⟩) ⟨pm_ron_blind, va_recv hK hPc (ci := 3) (q0 := 0) rfl rfl, pm_ron_pre hPc hK hN⟩ rfl rfl hl.1 rfl (lv_room (Nat.le_of_ble_eq_true rfl)) dL_isRound_286 ⟨Nat.le_of_ble_eq_true rfl, Nat.le_of_ble_eq_true rfl⟩) (fun r60 h61 => ?_)
                            obtain rfl : r60 = nI (S 10 0) := h61.trans (pq_co0)
                            have := hI.1.rnd
                            refine lv_bipush (v := nI 99) hx hb dL_isRound_289 (by decide) ?_
                            refine kx_icmp_ne (tgt := 298) hx hb (by omega) (by decide) dL_isRound_291 (by decide) (fun c62 => by exfalso; omega) (fun c62 => ?_)
                            refine lv_iconst (v := nI 1) hx hb dL_isRound_294 (by decide) ?_
                            refine lv_goto (tgt := 299) hx hb dL_isRound_295 (by decide) ?_
                            exact W.zret (ty := .boolean) hx hb hr rfl (fun t ht _ => ⟨⟨_, ((S, Bs55, pi56, kn57), Z), rfl, ⟨rfl, hI, hC54⟩, (by show va_P D vwCl ((dd, .inl ((y 0), 36, .inl Z)) :: pm_cl y L S Bs55 pi56 kn57 Gs sv U) t.heap; rw [ht]; exact hP)⟩, hS.F ht⟩) hS.2.2 dL_isRound_299
                          · obtain ⟨T, E, hR⟩ := pq_round hI h99
                            have hIT : pq_I T := by have h8 := pq_round_I hI; rw [E] at h8; exact h8
                            refine lv_aload_n hx hb dL_isRound_264 rfl (lv_at hl 1 rfl) ?_
                            have hPc : va_P D vwCl (pm_cl y L S Bs pi kn Gs sv U) H := pq_cut hP
                            have hDc := pq_cutD hD
                            refine va_calli (va_runV (As := []) (rest := []) ⟨hx, hb, hml, hown, hts⟩ (k_X3_round l D y L S Bs pi kn Gs sv U (fun i => Bs (pi i)) Gs (pq_CI hC) hI.1) (cwV 0 hts gL_isRound_X3_round rfl rfl rfl hd_X3_round ⟨Nat.le_of_ble_eq_true rfl, Nat.le_of_ble_eq_true rfl⟩) ⟨pm_wr_blind, va_recv hK hPc (ci := 3) (q0 := 0) rfl rfl, pm_wr_pre hPc hK hDc⟩ rfl rfl hl.1 rfl (lv_room (Nat.le_of_ble_eq_true rfl)) dL_isRound_265 ⟨Nat.le_of_ble_eq_true rfl, Nat.le_of_ble_eq_true rfl⟩) hS (fun q _ h9 => pm_ad_all hDc q h9) (pm_ad_all hDc) (fun r63 u68 t64 H1 locs ht65 _ h69 hB66 _ hk67 hS => ?_)
                            have hB66 : va_P D vwCl (pm_cl y L T (pm_ub Bs (pi kn) S) (pm_rp pi kn (nI (pm_bc S 1 30))) (pm_rk kn (nI (pm_bc S 1 30))) Gs sv U) H1 := by have h8 : va_P D vwCl (pm_cl y L (pm_aRound S).2 (pm_ub Bs (pi kn) S) (pm_rp pi kn (pm_aRound S).1) (pm_rk kn (pm_aRound S).1) Gs sv U) t64.heap := hB66; rw [E] at h8; rw [← ht65]; exact h8
                            obtain rfl : r63 = nI (pm_bc S 1 30) := h69.trans (by rw [E])
                            obtain ⟨hP, hD⟩ := pq_mid (w' := pm_cl y L T (pm_ub Bs (pi kn) S) (pm_rp pi kn (nI (pm_bc S 1 30))) (pm_rk kn (nI (pm_bc S 1 30))) Gs sv U) hP hD hk67 hB66 (pm_cl_fst ..)
                            have hC70 := pq_C_r hC (nI (pm_bc S 1 30))
                            generalize pm_ub Bs (pi kn) S = Bs71 at hP hD
                            generalize pm_rp pi kn (nI (pm_bc S 1 30)) = pi72 at hP hD hC70
                            generalize pm_rk kn (nI (pm_bc S 1 30)) = kn73 at hP hD hC70
                            generalize H1 = H at hP hS ⊢
                            have hP : va_P D vwCl ((dd, .inl ((y 0), 36, .inl Z)) :: pm_cl y L T Bs71 pi72 kn73 Gs sv U) H := hP
                            have hD : va_D (pm_ad ((dd, .inl ((y 0), 36, .inl F)) :: pm_cl y L S Bs pi kn Gs sv U)) ((dd, .inl ((y 0), 36, .inl Z)) :: pm_cl y L T Bs71 pi72 kn73 Gs sv U) := hD
                            refine lv_istore (lv' := [(6, .int (nI (pm_bc S 1 30))), (0, .ref (L 0 0)), (1, .ref dd), (2, .int (nI (pm_bc S 1 30))), (3, .int (nI (pm_bc S 2 30 + pm_hm S 2 30))), (4, .int (nI (pm_bc S 0 30))), (5, .int (nI (S 10 0))), (7, .int (nI 30))]) hx hb dL_isRound_268 hl (by decide) rfl (fun ls hl => ?_)
                            refine lv_iload hx hb dL_isRound_270 (lv_at hl 6 rfl) ?_
                            refine lv_bipush (v := nI 99) hx hb dL_isRound_272 (by decide) ?_
                            refine kx_icmp_ne (tgt := 300) hx hb (by omega) (by decide) dL_isRound_274 (by decide) (fun c74 => ?_) (fun c74 => by exfalso; omega)
                            refine lv_iconst (v := nI 0) hx hb dL_isRound_300 (by decide) ?_
                            refine lv_istore (lv' := [(7, .int (nI 0)), (6, .int (nI (pm_bc S 1 30))), (0, .ref (L 0 0)), (1, .ref dd), (2, .int (nI (pm_bc S 1 30))), (3, .int (nI (pm_bc S 2 30 + pm_hm S 2 30))), (4, .int (nI (pm_bc S 0 30))), (5, .int (nI (S 10 0)))]) hx hb dL_isRound_301 hl (by decide) rfl (fun ls hl => ?_)
                            have LOOP303 : ∀ (n k : Nat) (ls : Array Slot), k ≤ 30 → 30 - k < n → lv_has ls 12 [(0, .ref (L 0 0)), (1, .ref dd), (2, .int (nI (pm_bc S 1 30))), (3, .int (nI (pm_bc S 2 30 + pm_hm S 2 30))), (4, .int (nI (pm_bc S 0 30))), (5, .int (nI (S 10 0))), (6, .int (nI (pm_bc S 1 30))), (7, .int (nI k))] → W p l e (headSpec wsL_isRound ({ frames := 6, cells := 0, slots := 0, locals := 129 } : Room)).room s m ([.ref (L 0 0), .ref dd] : List Value).toArray below meth c H locs 0 0 (MQ below (pm_Qi D (fun (r : Int32) (u : pq_T × (Nat → Int32)) => r = nI 1 ∧ pq_I u.1.1 ∧ pq_C u.1.2.2.1 u.1.2.2.2) (fun (u : pq_T × (Nat → Int32)) => (dd, .inl (y 0, 36, .inl u.2)) :: pm_cl y L u.1.1 u.1.2.1 u.1.2.2.1 u.1.2.2.2 Gs sv U) ((dd, .inl ((y 0), 36, .inl F)) :: pm_cl y L S Bs pi kn Gs sv U)) ([.ref (L 0 0), .ref dd] : List Value).toArray s 0 0 (pm_ad ((dd, .inl ((y 0), 36, .inl F)) :: pm_cl y L S Bs pi kn Gs sv U))) (F0 m 303 ls []) := by
                              intro n
                              induction n with
                              | zero => intro k _ hi hn; omega
                              | succ n ih75 =>
                                intro k ls hi_k hn_k hl 
                                refine lv_iload hx hb dL_isRound_303 (lv_at hl 7 rfl) ?_
                                refine lv_bipush (v := nI 30) hx hb dL_isRound_305 (by decide) ?_
                                refine kx_icmp_ge (tgt := 485) hx hb (by omega) (by decide) dL_isRound_307 (by decide) (fun c76 => ?_) (fun c76 => ?_)
                                · skip
                                  obtain rfl : k = 30 := by omega
                                  refine lv_iconst (v := nI 0) hx hb dL_isRound_485 (by decide) ?_
                                  refine lv_istore (lv' := [(7, .int (nI 0)), (0, .ref (L 0 0)), (1, .ref dd), (2, .int (nI (pm_bc S 1 30))), (3, .int (nI (pm_bc S 2 30 + pm_hm S 2 30))), (4, .int (nI (pm_bc S 0 30))), (5, .int (nI (S 10 0))), (6, .int (nI (pm_bc S 1 30)))]) hx hb dL_isRound_486 hl (by decide) rfl (fun ls hl => ?_)
                                  refine lv_iload hx hb dL_isRound_488 (lv_at hl 0 rfl) ?_
                                  refine lv_iconst (v := nI 3) hx hb dL_isRound_490 (by decide) ?_
                                  refine lv_icmp_ge (tgt := 556) hx hb dL_isRound_491 (by decide) (fun c77 => absurd c77 (by decide)) (fun _ => ?_)
                                  obtain ⟨t5, t8⟩ := hR.2.1 0 (by decide)
                                  have t5 := pq_t5 t5
                                  have := hI.1.pts 0 (by decide)
                                  refine lv_aload_n hx hb dL_isRound_494 rfl (lv_at hl 1 rfl) ?_
                                  refine lv_iload hx hb dL_isRound_495 (lv_at hl 0 rfl) ?_
                                  refine lv_iconst (v := nI 0) hx hb dL_isRound_497 (by decide) ?_
                                  have hPc : va_P D vwCl (pm_cl y L T Bs71 pi72 kn73 Gs sv U) H := pq_cut hP
                                  refine vp_callSi (W.runV (As := [.int (nI 0), .int (nI 0)]) (rest := []) ⟨hx, hb, hml, hown, hts⟩ (k_X3_editor l D y L T Bs71 pi72 kn73 Gs sv U Bs Gs (nI 0) (nI 0) hIT.1) (cwV 2 hts gL_isRound_X3_editor rfl rfl rfl hd_X3_editor ⟨Nat.le_of_ble_eq_true rfl, Nat.le_of_ble_eq_true rfl⟩) ⟨pm_ro_blind, va_recv hK hPc (ci := 3) (q0 := 0) rfl rfl, pm_ro_pre hPc hK⟩ rfl rfl hl.1 rfl (lv_room (Nat.le_of_ble_eq_true rfl)) dL_isRound_498 ⟨Nat.le_of_ble_eq_true rfl, Nat.le_of_ble_eq_true rfl⟩) (fun r78 h79 => ?_)
                                  obtain rfl : r78 = nI (T 5 0) := h79.trans (pq_ed0 (by omega))
                                  have := hIT.1.pts 0 (by omega)
                                  refine lv_aload_n hx hb dL_isRound_501 rfl (lv_at hl 2 rfl) ?_
                                  refine lv_bipush (v := nI 30) hx hb dL_isRound_502 (by decide) ?_
                                  refine lv_iload hx hb dL_isRound_504 (lv_at hl 0 rfl) ?_
                                  refine kx_iadd hx hb dL_isRound_506 ?_
                                  refine lv_topi (fun x80 e81 => ?_)
                                  obtain rfl : x80 = nI 30 := e81.trans (rfl)
                                  refine kx_iald (v := nI (S 5 0)) hx hb hK hP 0 0 rfl rfl (by decide) (by decide) (z2 0 (by decide)) dL_isRound_507 ?_
                                  refine lv_bipush (v := nI 17) hx hb dL_isRound_508 (by decide) ?_
                                  refine kx_icmp_le (tgt := 518) hx hb (by omega) (by decide) dL_isRound_510 (by decide) (fun c82 => ?_) (fun c82 => ?_)
                                  · skip
                                    refine lv_aload_n hx hb dL_isRound_518 rfl (lv_at hl 2 rfl) ?_
                                    refine lv_bipush (v := nI 30) hx hb dL_isRound_519 (by decide) ?_
                                    refine lv_iload hx hb dL_isRound_521 (lv_at hl 0 rfl) ?_
                                    refine kx_iadd hx hb dL_isRound_523 ?_
                                    refine lv_topi (fun x83 e84 => ?_)
                                    obtain rfl : x83 = nI 30 := e84.trans (rfl)
                                    refine kx_iald (v := nI (S 5 0)) hx hb hK hP 0 0 rfl rfl (by decide) (by decide) (z2 0 (by decide)) dL_isRound_524 ?_
                                    refine lv_iconst (v := nI 2) hx hb dL_isRound_525 (by decide) ?_
                                    refine kx_iadd hx hb dL_isRound_526 ?_
                                    refine kx_icmp_ne (tgt := 548) hx hb (by omega) (by omega) dL_isRound_527 (by decide) (fun c85 => by exfalso; omega) (fun c85 => ?_)
                                    refine lv_aload_n hx hb dL_isRound_530 rfl (lv_at hl 1 rfl) ?_
                                    refine lv_iload hx hb dL_isRound_531 (lv_at hl 0 rfl) ?_
                                    refine lv_bipush (v := nI 6) hx hb dL_isRound_533 (by decide) ?_
                                    have hPc : va_P D vwCl (pm_cl y L T Bs71 pi72 kn73 Gs sv U) H := pq_cut hP
                                    refine vp_callSi (W.runV (As := [.int (nI 0), .int (nI 6)]) (rest := []) ⟨hx, hb, hml, hown, hts⟩ (k_X3_editor l D y L T Bs71 pi72 kn73 Gs sv U Bs Gs (nI 0) (nI 6) hIT.1) (cwV 2 hts gL_isRound_X3_editor rfl rfl rfl hd_X3_editor ⟨Nat.le_of_ble_eq_true rfl, Nat.le_of_ble_eq_true rfl⟩) ⟨pm_ro_blind, va_recv hK hPc (ci := 3) (q0 := 0) rfl rfl, pm_ro_pre hPc hK⟩ rfl rfl hl.1 rfl (lv_room (Nat.le_of_ble_eq_true rfl)) dL_isRound_535 ⟨Nat.le_of_ble_eq_true rfl, Nat.le_of_ble_eq_true rfl⟩) (fun r86 h87 => ?_)
                                    obtain rfl : r86 = nI (T 8 0) := h87.trans (pq_ed6 (by omega))
                                    refine lv_aload_n hx hb dL_isRound_538 rfl (lv_at hl 2 rfl) ?_
                                    refine lv_bipush (v := nI 33) hx hb dL_isRound_539 (by decide) ?_
                                    refine lv_iload hx hb dL_isRound_541 (lv_at hl 0 rfl) ?_
                                    refine kx_iadd hx hb dL_isRound_543 ?_
                                    refine lv_topi (fun x88 e89 => ?_)
                                    obtain rfl : x88 = nI 33 := e89.trans (rfl)
                                    refine kx_iald (v := nI (S 8 0 + pq_fn S 0 30)) hx hb hK hP 0 0 rfl rfl (by decide) (by decide) (z3 0 (by decide)) dL_isRound_544 ?_
                                    refine lv_icmp_eq (tgt := 550) hx hb dL_isRound_545 (by decide) (fun c90 => ?_) (fun c90 => by exfalso; exact c90 (by rw [t8]))
                                    refine lv_iinc (v := nI 1) (lv' := [(7, .int (nI 1)), (0, .ref (L 0 0)), (1, .ref dd), (2, .int (nI (pm_bc S 1 30))), (3, .int (nI (pm_bc S 2 30 + pm_hm S 2 30))), (4, .int (nI (pm_bc S 0 30))), (5, .int (nI (S 10 0))), (6, .int (nI (pm_bc S 1 30)))]) hx hb dL_isRound_550 hl (k := 0) rfl (by decide) (by decide) rfl (fun ls hl => ?_)
                                    refine lv_goto (tgt := 488) hx hb dL_isRound_553 (by decide) ?_
                                    refine lv_iload hx hb dL_isRound_488 (lv_at hl 0 rfl) ?_
                                    refine lv_iconst (v := nI 3) hx hb dL_isRound_490 (by decide) ?_
                                    refine lv_icmp_ge (tgt := 556) hx hb dL_isRound_491 (by decide) (fun c91 => absurd c91 (by decide)) (fun _ => ?_)
                                    obtain ⟨t5, t8⟩ := hR.2.1 1 (by decide)
                                    have t5 := pq_t5 t5
                                    have := hI.1.pts 1 (by decide)
                                    refine lv_aload_n hx hb dL_isRound_494 rfl (lv_at hl 1 rfl) ?_
                                    refine lv_iload hx hb dL_isRound_495 (lv_at hl 0 rfl) ?_
                                    refine lv_iconst (v := nI 0) hx hb dL_isRound_497 (by decide) ?_
                                    have hPc : va_P D vwCl (pm_cl y L T Bs71 pi72 kn73 Gs sv U) H := pq_cut hP
                                    refine vp_callSi (W.runV (As := [.int (nI 1), .int (nI 0)]) (rest := []) ⟨hx, hb, hml, hown, hts⟩ (k_X3_editor l D y L T Bs71 pi72 kn73 Gs sv U Bs Gs (nI 1) (nI 0) hIT.1) (cwV 2 hts gL_isRound_X3_editor rfl rfl rfl hd_X3_editor ⟨Nat.le_of_ble_eq_true rfl, Nat.le_of_ble_eq_true rfl⟩) ⟨pm_ro_blind, va_recv hK hPc (ci := 3) (q0 := 0) rfl rfl, pm_ro_pre hPc hK⟩ rfl rfl hl.1 rfl (lv_room (Nat.le_of_ble_eq_true rfl)) dL_isRound_498 ⟨Nat.le_of_ble_eq_true rfl, Nat.le_of_ble_eq_true rfl⟩) (fun r92 h93 => ?_)
                                    obtain rfl : r92 = nI (T 5 1) := h93.trans (pq_ed0 (by omega))
                                    have := hIT.1.pts 1 (by omega)
                                    refine lv_aload_n hx hb dL_isRound_501 rfl (lv_at hl 2 rfl) ?_
                                    refine lv_bipush (v := nI 30) hx hb dL_isRound_502 (by decide) ?_
                                    refine lv_iload hx hb dL_isRound_504 (lv_at hl 0 rfl) ?_
                                    refine kx_iadd hx hb dL_isRound_506 ?_
                                    refine lv_topi (fun x94 e95 => ?_)
                                    obtain rfl : x94 = nI 31 := e95.trans (rfl)
                                    refine kx_iald (v := nI (S 5 1)) hx hb hK hP 0 0 rfl rfl (by decide) (by decide) (z2 1 (by decide)) dL_isRound_507 ?_
                                    refine lv_bipush (v := nI 17) hx hb dL_isRound_508 (by decide) ?_
                                    refine kx_icmp_le (tgt := 518) hx hb (by omega) (by decide) dL_isRound_510 (by decide) (fun c96 => ?_) (fun c96 => ?_)
                                    · skip
                                      refine lv_aload_n hx hb dL_isRound_518 rfl (lv_at hl 2 rfl) ?_
                                      refine lv_bipush (v := nI 30) hx hb dL_isRound_519 (by decide) ?_
                                      refine lv_iload hx hb dL_isRound_521 (lv_at hl 0 rfl) ?_
                                      refine kx_iadd hx hb dL_isRound_523 ?_
                                      refine lv_topi (fun x97 e98 => ?_)
                                      obtain rfl : x97 = nI 31 := e98.trans (rfl)
                                      refine kx_iald (v := nI (S 5 1)) hx hb hK hP 0 0 rfl rfl (by decide) (by decide) (z2 1 (by decide)) dL_isRound_524 ?_
                                      refine lv_iconst (v := nI 2) hx hb dL_isRound_525 (by decide) ?_
                                      refine kx_iadd hx hb dL_isRound_526 ?_
                                      refine kx_icmp_ne (tgt := 548) hx hb (by omega) (by omega) dL_isRound_527 (by decide) (fun c99 => by exfalso; omega) (fun c99 => ?_)
                                      refine lv_aload_n hx hb dL_isRound_530 rfl (lv_at hl 1 rfl) ?_
                                      refine lv_iload hx hb dL_isRound_531 (lv_at hl 0 rfl) ?_
                                      refine lv_bipush (v := nI 6) hx hb dL_isRound_533 (by decide) ?_
                                      have hPc : va_P D vwCl (pm_cl y L T Bs71 pi72 kn73 Gs sv U) H := pq_cut hP
                                      refine vp_callSi (W.runV (As := [.int (nI 1), .int (nI 6)]) (rest := []) ⟨hx, hb, hml, hown, hts⟩ (k_X3_editor l D y L T Bs71 pi72 kn73 Gs sv U Bs Gs (nI 1) (nI 6) hIT.1) (cwV 2 hts gL_isRound_X3_editor rfl rfl rfl hd_X3_editor ⟨Nat.le_of_ble_eq_true rfl, Nat.le_of_ble_eq_true rfl⟩) ⟨pm_ro_blind, va_recv hK hPc (ci := 3) (q0 := 0) rfl rfl, pm_ro_pre hPc hK⟩ rfl rfl hl.1 rfl (lv_room (Nat.le_of_ble_eq_true rfl)) dL_isRound_535 ⟨Nat.le_of_ble_eq_true rfl, Nat.le_of_ble_eq_true rfl⟩) (fun r100 h101 => ?_)
                                      obtain rfl : r100 = nI (T 8 1) := h101.trans (pq_ed6 (by omega))
                                      refine lv_aload_n hx hb dL_isRound_538 rfl (lv_at hl 2 rfl) ?_
                                      refine lv_bipush (v := nI 33) hx hb dL_isRound_539 (by decide) ?_
                                      refine lv_iload hx hb dL_isRound_541 (lv_at hl 0 rfl) ?_
                                      refine kx_iadd hx hb dL_isRound_543 ?_
                                      refine lv_topi (fun x102 e103 => ?_)
                                      obtain rfl : x102 = nI 34 := e103.trans (rfl)
                                      refine kx_iald (v := nI (S 8 1 + pq_fn S 1 30)) hx hb hK hP 0 0 rfl rfl (by decide) (by decide) (z3 1 (by decide)) dL_isRound_544 ?_
                                      refine lv_icmp_eq (tgt := 550) hx hb dL_isRound_545 (by decide) (fun c104 => ?_) (fun c104 => by exfalso; exact c104 (by rw [t8]))
                                      refine lv_iinc (v := nI 2) (lv' := [(7, .int (nI 2)), (0, .ref (L 0 0)), (1, .ref dd), (2, .int (nI (pm_bc S 1 30))), (3, .int (nI (pm_bc S 2 30 + pm_hm S 2 30))), (4, .int (nI (pm_bc S 0 30))), (5, .int (nI (S 10 0))), (6, .int (nI (pm_bc S 1 30)))]) hx hb dL_isRound_550 hl (k := 0) rfl (by decide) (by decide) rfl (fun ls hl => ?_)
                                      refine lv_goto (tgt := 488) hx hb dL_isRound_553 (by decide) ?_
                                      refine lv_iload hx hb dL_isRound_488 (lv_at hl 0 rfl) ?_
                                      refine lv_iconst (v := nI 3) hx hb dL_isRound_490 (by decide) ?_
                                      refine lv_icmp_ge (tgt := 556) hx hb dL_isRound_491 (by decide) (fun c105 => absurd c105 (by decide)) (fun _ => ?_)
                                      obtain ⟨t5, t8⟩ := hR.2.1 2 (by decide)
                                      have t5 := pq_t5 t5
                                      have := hI.1.pts 2 (by decide)
                                      refine lv_aload_n hx hb dL_isRound_494 rfl (lv_at hl 1 rfl) ?_
                                      refine lv_iload hx hb dL_isRound_495 (lv_at hl 0 rfl) ?_
                                      refine lv_iconst (v := nI 0) hx hb dL_isRound_497 (by decide) ?_
                                      have hPc : va_P D vwCl (pm_cl y L T Bs71 pi72 kn73 Gs sv U) H := pq_cut hP
                                      refine vp_callSi (W.runV (As := [.int (nI 2), .int (nI 0)]) (rest := []) ⟨hx, hb, hml, hown, hts⟩ (k_X3_editor l D y L T Bs71 pi72 kn73 Gs sv U Bs Gs (nI 2) (nI 0) hIT.1) (cwV 2 hts gL_isRound_X3_editor rfl rfl rfl hd_X3_editor ⟨Nat.le_of_ble_eq_true rfl, Nat.le_of_ble_eq_true rfl⟩) ⟨pm_ro_blind, va_recv hK hPc (ci := 3) (q0 := 0) rfl rfl, pm_ro_pre hPc hK⟩ rfl rfl hl.1 rfl (lv_room (Nat.le_of_ble_eq_true rfl)) dL_isRound_498 ⟨Nat.le_of_ble_eq_true rfl, Nat.le_of_ble_eq_true rfl⟩) (fun r106 h107 => ?_)
                                      obtain rfl : r106 = nI (T 5 2) := h107.trans (pq_ed0 (by omega))
                                      have := hIT.1.pts 2 (by omega)
                                      refine lv_aload_n hx hb dL_isRound_501 rfl (lv_at hl 2 rfl) ?_
                                      refine lv_bipush (v := nI 30) hx hb dL_isRound_502 (by decide) ?_
                                      refine lv_iload hx hb dL_isRound_504 (lv_at hl 0 rfl) ?_
                                      refine kx_iadd hx hb dL_isRound_506 ?_
                                      refine lv_topi (fun x108 e109 => ?_)
                                      obtain rfl : x108 = nI 32 := e109.trans (rfl)
                                      refine kx_iald (v := nI (S 5 2)) hx hb hK hP 0 0 rfl rfl (by decide) (by decide) (z2 2 (by decide)) dL_isRound_507 ?_
                                      refine lv_bipush (v := nI 17) hx hb dL_isRound_508 (by decide) ?_
                                      refine kx_icmp_le (tgt := 518) hx hb (by omega) (by decide) dL_isRound_510 (by decide) (fun c110 => ?_) (fun c110 => ?_)
                                      · skip
                                        refine lv_aload_n hx hb dL_isRound_518 rfl (lv_at hl 2 rfl) ?_
                                        refine lv_bipush (v := nI 30) hx hb dL_isRound_519 (by decide) ?_
                                        refine lv_iload hx hb dL_isRound_521 (lv_at hl 0 rfl) ?_
                                        refine kx_iadd hx hb dL_isRound_523 ?_
                                        refine lv_topi (fun x111 e112 => ?_)
                                        obtain rfl : x111 = nI 32 := e112.trans (rfl)
                                        refine kx_iald (v := nI (S 5 2)) hx hb hK hP 0 0 rfl rfl (by decide) (by decide) (z2 2 (by decide)) dL_isRound_524 ?_
                                        refine lv_iconst (v := nI 2) hx hb dL_isRound_525 (by decide) ?_
                                        refine kx_iadd hx hb dL_isRound_526 ?_
                                        refine kx_icmp_ne (tgt := 548) hx hb (by omega) (by omega) dL_isRound_527 (by decide) (fun c113 => by exfalso; omega) (fun c113 => ?_)
                                        refine lv_aload_n hx hb dL_isRound_530 rfl (lv_at hl 1 rfl) ?_
                                        refine lv_iload hx hb dL_isRound_531 (lv_at hl 0 rfl) ?_
                                        refine lv_bipush (v := nI 6) hx hb dL_isRound_533 (by decide) ?_
                                        have hPc : va_P D vwCl (pm_cl y L T Bs71 pi72 kn73 Gs sv U) H := pq_cut hP
                                        refine vp_callSi (W.runV (As := [.int (nI 2), .int (nI 6)]) (rest := []) ⟨hx, hb, hml, hown, hts⟩ (k_X3_editor l D y L T Bs71 pi72 kn73 Gs sv U Bs Gs (nI 2) (nI 6) hIT.1) (cwV 2 hts gL_isRound_X3_editor rfl rfl rfl hd_X3_editor ⟨Nat.le_of_ble_eq_true rfl, Nat.le_of_ble_eq_true rfl⟩) ⟨pm_ro_blind, va_recv hK hPc (ci := 3) (q0 := 0) rfl rfl, pm_ro_pre hPc hK⟩ rfl rfl hl.1 rfl (lv_room (Nat.le_of_ble_eq_true rfl)) dL_isRound_535 ⟨Nat.le_of_ble_eq_true rfl, Nat.le_of_ble_eq_true rfl⟩) (fun r114 h115 => ?_)
                                        obtain rfl : r114 = nI (T 8 2) := h115.trans (pq_ed6 (by omega))
                                        refine lv_aload_n hx hb dL_isRound_538 rfl (lv_at hl 2 rfl) ?_
                                        refine lv_bipush (v := nI 33) hx hb dL_isRound_539 (by decide) ?_
                                        refine lv_iload hx hb dL_isRound_541 (lv_at hl 0 rfl) ?_
                                        refine kx_iadd hx hb dL_isRound_543 ?_
                                        refine lv_topi (fun x116 e117 => ?_)
                                        obtain rfl : x116 = nI 35 := e117.trans (rfl)
                                        refine kx_iald (v := nI (S 8 2 + pq_fn S 2 30)) hx hb hK hP 0 0 rfl rfl (by decide) (by decide) (z3 2 (by decide)) dL_isRound_544 ?_
                                        refine lv_icmp_eq (tgt := 550) hx hb dL_isRound_545 (by decide) (fun c118 => ?_) (fun c118 => by exfalso; exact c118 (by rw [t8]))
                                        refine lv_iinc (v := nI 3) (lv' := [(7, .int (nI 3)), (0, .ref (L 0 0)), (1, .ref dd), (2, .int (nI (pm_bc S 1 30))), (3, .int (nI (pm_bc S 2 30 + pm_hm S 2 30))), (4, .int (nI (pm_bc S 0 30))), (5, .int (nI (S 10 0))), (6, .int (nI (pm_bc S 1 30)))]) hx hb dL_isRound_550 hl (k := 0) rfl (by decide) (by decide) rfl (fun ls hl => ?_)
                                        refine lv_goto (tgt := 488) hx hb dL_isRound_553 (by decide) ?_
                                        refine lv_iload hx hb dL_isRound_488 (lv_at hl 0 rfl) ?_
                                        refine lv_iconst (v := nI 3) hx hb dL_isRound_490 (by decide) ?_
                                        refine lv_icmp_ge (tgt := 556) hx hb dL_isRound_491 (by decide) (fun _ => ?_) (fun c119 => (c119 (by decide)).elim)
                                        have hc3 := pq_c3 hR
                                        have hc1 := pq_c1 hR
                                        have h10 := hR.2.2
                                        have := hI.1.rnd
                                        refine lv_iload hx hb dL_isRound_556 (lv_at hl 7 rfl) ?_
                                        refine lv_iload_n hx hb dL_isRound_558 rfl (lv_at hl 3 rfl) ?_
                                        refine kx_icmp_ne (tgt := 597) hx hb (by omega) (by omega) dL_isRound_559 (by decide) (fun c120 => by exfalso; omega) (fun c120 => ?_)
                                        refine lv_aload_n hx hb dL_isRound_562 rfl (lv_at hl 1 rfl) ?_
                                        refine lv_iconst (v := nI 3) hx hb dL_isRound_563 (by decide) ?_
                                        have hPc : va_P D vwCl (pm_cl y L T Bs71 pi72 kn73 Gs sv U) H := pq_cut hP
                                        refine vp_callSi (W.runV (As := [.int (nI 3)]) (rest := []) ⟨hx, hb, hml, hown, hts⟩ (k_X3_count l D y L T Bs71 pi72 kn73 Gs sv U Bs Gs (nI 3) hIT.1) (cwV 1 hts gL_isRound_X3_count rfl rfl rfl hd_X3_count ⟨Nat.le_of_ble_eq_true rfl, Nat.le_of_ble_eq_true rfl⟩) ⟨pm_ron_blind, va_recv hK hPc (ci := 3) (q0 := 0) rfl rfl, pm_ron_pre hPc hK hN⟩ rfl rfl hl.1 rfl (lv_room (Nat.le_of_ble_eq_true rfl)) dL_isRound_564 ⟨Nat.le_of_ble_eq_true rfl, Nat.le_of_ble_eq_true rfl⟩) (fun r121 h122 => ?_)
                                        obtain rfl : r121 = nI (pm_hm T 2 30) := h122.trans (pq_co3)
                                        have := pq_hm_le T 2 30
                                        refine lv_iload_n hx hb dL_isRound_567 rfl (lv_at hl 4 rfl) ?_
                                        refine kx_icmp_ne (tgt := 597) hx hb (by omega) (by omega) dL_isRound_568 (by decide) (fun c123 => by exfalso; omega) (fun c123 => ?_)
                                        refine lv_aload_n hx hb dL_isRound_571 rfl (lv_at hl 1 rfl) ?_
                                        refine lv_iconst (v := nI 1) hx hb dL_isRound_572 (by decide) ?_
                                        have hPc : va_P D vwCl (pm_cl y L T Bs71 pi72 kn73 Gs sv U) H := pq_cut hP
                                        refine vp_callSi (W.runV (As := [.int (nI 1)]) (rest := []) ⟨hx, hb, hml, hown, hts⟩ (k_X3_count l D y L T Bs71 pi72 kn73 Gs sv U Bs Gs (nI 1) hIT.1) (cwV 1 hts gL_isRound_X3_count rfl rfl rfl hd_X3_count ⟨Nat.le_of_ble_eq_true rfl, Nat.le_of_ble_eq_true rfl⟩) ⟨pm_ron_blind, va_recv hK hPc (ci := 3) (q0 := 0) rfl rfl, pm_ron_pre hPc hK hN⟩ rfl rfl hl.1 rfl (lv_room (Nat.le_of_ble_eq_true rfl)) dL_isRound_573 ⟨Nat.le_of_ble_eq_true rfl, Nat.le_of_ble_eq_true rfl⟩) (fun r124 h125 => ?_)
                                        obtain rfl : r124 = nI (pm_hm T 0 30) := h125.trans (pq_co1)
                                        have := pq_hm_le T 0 30
                                        refine lv_iload hx hb dL_isRound_576 (lv_at hl 5 rfl) ?_
                                        refine kx_icmp_ne (tgt := 597) hx hb (by omega) (by omega) dL_isRound_578 (by decide) (fun c126 => by exfalso; omega) (fun c126 => ?_)
                                        refine lv_aload_n hx hb dL_isRound_581 rfl (lv_at hl 1 rfl) ?_
                                        refine lv_iconst (v := nI 0) hx hb dL_isRound_582 (by decide) ?_
                                        have hPc : va_P D vwCl (pm_cl y L T Bs71 pi72 kn73 Gs sv U) H := pq_cut hP
                                        refine vp_callSi (W.runV (As := [.int (nI 0)]) (rest := []) ⟨hx, hb, hml, hown, hts⟩ (k_X3_count l D y L T Bs71 pi72 kn73 Gs sv U Bs Gs (nI 0) hIT.1) (cwV 1 hts gL_isRound_X3_count rfl rfl rfl hd_X3_count ⟨Nat.le_of_ble_eq_true rfl, Nat.le_of_ble_eq_true rfl⟩) ⟨pm_ron_blind, va_recv hK hPc (ci := 3) (q0 := 0) rfl rfl, pm_ron_pre hPc hK hN⟩ rfl rfl hl.1 rfl (lv_room (Nat.le_of_ble_eq_true rfl)) dL_isRound_583 ⟨Nat.le_of_ble_eq_true rfl, Nat.le_of_ble_eq_true rfl⟩) (fun r127 h128 => ?_)
                                        obtain rfl : r127 = nI (T 10 0) := h128.trans (pq_co0)
                                        have := hIT.1.rnd
                                        refine lv_iload hx hb dL_isRound_586 (lv_at hl 6 rfl) ?_
                                        refine lv_iconst (v := nI 1) hx hb dL_isRound_588 (by decide) ?_
                                        refine kx_iadd hx hb dL_isRound_589 ?_
                                        refine kx_icmp_ne (tgt := 597) hx hb (by omega) (by omega) dL_isRound_590 (by decide) (fun c129 => by exfalso; omega) (fun c129 => ?_)
                                        refine lv_iconst (v := nI 1) hx hb dL_isRound_593 (by decide) ?_
                                        refine lv_goto (tgt := 598) hx hb dL_isRound_594 (by decide) ?_
                                        exact W.zret (ty := .boolean) hx hb hr rfl (fun t ht _ => ⟨⟨_, ((T, Bs71, pi72, kn73), Z), rfl, ⟨rfl, hIT, hC70⟩, (by show va_P D vwCl ((dd, .inl ((y 0), 36, .inl Z)) :: pm_cl y L T Bs71 pi72 kn73 Gs sv U) t.heap; rw [ht]; exact hP)⟩, hS.F ht⟩) hS.2.2 dL_isRound_598
                                      · skip
                                        refine lv_bipush (v := nI 20) hx hb dL_isRound_513 (by decide) ?_
                                        refine lv_goto (tgt := 527) hx hb dL_isRound_515 (by decide) ?_
                                        refine kx_icmp_ne (tgt := 548) hx hb (by omega) (by decide) dL_isRound_527 (by decide) (fun c130 => by exfalso; omega) (fun c130 => ?_)
                                        refine lv_aload_n hx hb dL_isRound_530 rfl (lv_at hl 1 rfl) ?_
                                        refine lv_iload hx hb dL_isRound_531 (lv_at hl 0 rfl) ?_
                                        refine lv_bipush (v := nI 6) hx hb dL_isRound_533 (by decide) ?_
                                        have hPc : va_P D vwCl (pm_cl y L T Bs71 pi72 kn73 Gs sv U) H := pq_cut hP
                                        refine vp_callSi (W.runV (As := [.int (nI 2), .int (nI 6)]) (rest := []) ⟨hx, hb, hml, hown, hts⟩ (k_X3_editor l D y L T Bs71 pi72 kn73 Gs sv U Bs Gs (nI 2) (nI 6) hIT.1) (cwV 2 hts gL_isRound_X3_editor rfl rfl rfl hd_X3_editor ⟨Nat.le_of_ble_eq_true rfl, Nat.le_of_ble_eq_true rfl⟩) ⟨pm_ro_blind, va_recv hK hPc (ci := 3) (q0 := 0) rfl rfl, pm_ro_pre hPc hK⟩ rfl rfl hl.1 rfl (lv_room (Nat.le_of_ble_eq_true rfl)) dL_isRound_535 ⟨Nat.le_of_ble_eq_true rfl, Nat.le_of_ble_eq_true rfl⟩) (fun r131 h132 => ?_)
                                        obtain rfl : r131 = nI (T 8 2) := h132.trans (pq_ed6 (by omega))
                                        refine lv_aload_n hx hb dL_isRound_538 rfl (lv_at hl 2 rfl) ?_
                                        refine lv_bipush (v := nI 33) hx hb dL_isRound_539 (by decide) ?_
                                        refine lv_iload hx hb dL_isRound_541 (lv_at hl 0 rfl) ?_
                                        refine kx_iadd hx hb dL_isRound_543 ?_
                                        refine lv_topi (fun x133 e134 => ?_)
                                        obtain rfl : x133 = nI 35 := e134.trans (rfl)
                                        refine kx_iald (v := nI (S 8 2 + pq_fn S 2 30)) hx hb hK hP 0 0 rfl rfl (by decide) (by decide) (z3 2 (by decide)) dL_isRound_544 ?_
                                        refine lv_icmp_eq (tgt := 550) hx hb dL_isRound_545 (by decide) (fun c135 => ?_) (fun c135 => by exfalso; exact c135 (by rw [t8]))
                                        refine lv_iinc (v := nI 3) (lv' := [(7, .int (nI 3)), (0, .ref (L 0 0)), (1, .ref dd), (2, .int (nI (pm_bc S 1 30))), (3, .int (nI (pm_bc S 2 30 + pm_hm S 2 30))), (4, .int (nI (pm_bc S 0 30))), (5, .int (nI (S 10 0))), (6, .int (nI (pm_bc S 1 30)))]) hx hb dL_isRound_550 hl (k := 0) rfl (by decide) (by decide) rfl (fun ls hl => ?_)
                                        refine lv_goto (tgt := 488) hx hb dL_isRound_553 (by decide) ?_
                                        refine lv_iload hx hb dL_isRound_488 (lv_at hl 0 rfl) ?_
                                        refine lv_iconst (v := nI 3) hx hb dL_isRound_490 (by decide) ?_
                                        refine lv_icmp_ge (tgt := 556) hx hb dL_isRound_491 (by decide) (fun _ => ?_) (fun c136 => (c136 (by decide)).elim)
                                        have hc3 := pq_c3 hR
                                        have hc1 := pq_c1 hR
                                        have h10 := hR.2.2
                                        have := hI.1.rnd
                                        refine lv_iload hx hb dL_isRound_556 (lv_at hl 7 rfl) ?_
                                        refine lv_iload_n hx hb dL_isRound_558 rfl (lv_at hl 3 rfl) ?_
                                        refine kx_icmp_ne (tgt := 597) hx hb (by omega) (by omega) dL_isRound_559 (by decide) (fun c137 => by exfalso; omega) (fun c137 => ?_)
                                        refine lv_aload_n hx hb dL_isRound_562 rfl (lv_at hl 1 rfl) ?_
                                        refine lv_iconst (v := nI 3) hx hb dL_isRound_563 (by decide) ?_
                                        have hPc : va_P D vwCl (pm_cl y L T Bs71 pi72 kn73 Gs sv U) H := pq_cut hP
                                        refine vp_callSi (W.runV (As := [.int (nI 3)]) (rest := []) ⟨hx, hb, hml, hown, hts⟩ (k_X3_count l D y L T Bs71 pi72 kn73 Gs sv U Bs Gs (nI 3) hIT.1) (cwV 1 hts gL_isRound_X3_count rfl rfl rfl hd_X3_count ⟨Nat.le_of_ble_eq_true rfl, Nat.le_of_ble_eq_true rfl⟩) ⟨pm_ron_blind, va_recv hK hPc (ci := 3) (q0 := 0) rfl rfl, pm_ron_pre hPc hK hN⟩ rfl rfl hl.1 rfl (lv_room (Nat.le_of_ble_eq_true rfl)) dL_isRound_564 ⟨Nat.le_of_ble_eq_true rfl, Nat.le_of_ble_eq_true rfl⟩) (fun r138 h139 => ?_)
                                        obtain rfl : r138 = nI (pm_hm T 2 30) := h139.trans (pq_co3)
                                        have := pq_hm_le T 2 30
                                        refine lv_iload_n hx hb dL_isRound_567 rfl (lv_at hl 4 rfl) ?_
                                        refine kx_icmp_ne (tgt := 597) hx hb (by omega) (by omega) dL_isRound_568 (by decide) (fun c140 => by exfalso; omega) (fun c140 => ?_)
                                        refine lv_aload_n hx hb dL_isRound_571 rfl (lv_at hl 1 rfl) ?_
                                        refine lv_iconst (v := nI 1) hx hb dL_isRound_572 (by decide) ?_
                                        have hPc : va_P D vwCl (pm_cl y L T Bs71 pi72 kn73 Gs sv U) H := pq_cut hP
                                        refine vp_callSi (W.runV (As := [.int (nI 1)]) (rest := []) ⟨hx, hb, hml, hown, hts⟩ (k_X3_count l D y L T Bs71 pi72 kn73 Gs sv U Bs Gs (nI 1) hIT.1) (cwV 1 hts gL_isRound_X3_count rfl rfl rfl hd_X3_count ⟨Nat.le_of_ble_eq_true rfl, Nat.le_of_ble_eq_true rfl⟩) ⟨pm_ron_blind, va_recv hK hPc (ci := 3) (q0 := 0) rfl rfl, pm_ron_pre hPc hK hN⟩ rfl rfl hl.1 rfl (lv_room (Nat.le_of_ble_eq_true rfl)) dL_isRound_573 ⟨Nat.le_of_ble_eq_true rfl, Nat.le_of_ble_eq_true rfl⟩) (fun r141 h142 => ?_)
                                        obtain rfl : r141 = nI (pm_hm T 0 30) := h142.trans (pq_co1)
                                        have := pq_hm_le T 0 30
                                        refine lv_iload hx hb dL_isRound_576 (lv_at hl 5 rfl) ?_
                                        refine kx_icmp_ne (tgt := 597) hx hb (by omega) (by omega) dL_isRound_578 (by decide) (fun c143 => by exfalso; omega) (fun c143 => ?_)
                                        refine lv_aload_n hx hb dL_isRound_581 rfl (lv_at hl 1 rfl) ?_
                                        refine lv_iconst (v := nI 0) hx hb dL_isRound_582 (by decide) ?_
                                        have hPc : va_P D vwCl (pm_cl y L T Bs71 pi72 kn73 Gs sv U) H := pq_cut hP
                                        refine vp_callSi (W.runV (As := [.int (nI 0)]) (rest := []) ⟨hx, hb, hml, hown, hts⟩ (k_X3_count l D y L T Bs71 pi72 kn73 Gs sv U Bs Gs (nI 0) hIT.1) (cwV 1 hts gL_isRound_X3_count rfl rfl rfl hd_X3_count ⟨Nat.le_of_ble_eq_true rfl, Nat.le_of_ble_eq_true rfl⟩) ⟨pm_ron_blind, va_recv hK hPc (ci := 3) (q0 := 0) rfl rfl, pm_ron_pre hPc hK hN⟩ rfl rfl hl.1 rfl (lv_room (Nat.le_of_ble_eq_true rfl)) dL_isRound_583 ⟨Nat.le_of_ble_eq_true rfl, Nat.le_of_ble_eq_true rfl⟩) (fun r144 h145 => ?_)
                                        obtain rfl : r144 = nI (T 10 0) := h145.trans (pq_co0)
                                        have := hIT.1.rnd
                                        refine lv_iload hx hb dL_isRound_586 (lv_at hl 6 rfl) ?_
                                        refine lv_iconst (v := nI 1) hx hb dL_isRound_588 (by decide) ?_
                                        refine kx_iadd hx hb dL_isRound_589 ?_
                                        refine kx_icmp_ne (tgt := 597) hx hb (by omega) (by omega) dL_isRound_590 (by decide) (fun c146 => by exfalso; omega) (fun c146 => ?_)
                                        refine lv_iconst (v := nI 1) hx hb dL_isRound_593 (by decide) ?_
                                        refine lv_goto (tgt := 598) hx hb dL_isRound_594 (by decide) ?_
                                        exact W.zret (ty := .boolean) hx hb hr rfl (fun t ht _ => ⟨⟨_, ((T, Bs71, pi72, kn73), Z), rfl, ⟨rfl, hIT, hC70⟩, (by show va_P D vwCl ((dd, .inl ((y 0), 36, .inl Z)) :: pm_cl y L T Bs71 pi72 kn73 Gs sv U) t.heap; rw [ht]; exact hP)⟩, hS.F ht⟩) hS.2.2 dL_isRound_598
                                    · skip
                                      refine lv_bipush (v := nI 20) hx hb dL_isRound_513 (by decide) ?_
                                      refine lv_goto (tgt := 527) hx hb dL_isRound_515 (by decide) ?_
                                      refine kx_icmp_ne (tgt := 548) hx hb (by omega) (by decide) dL_isRound_527 (by decide) (fun c147 => by exfalso; omega) (fun c147 => ?_)
                                      refine lv_aload_n hx hb dL_isRound_530 rfl (lv_at hl 1 rfl) ?_
                                      refine lv_iload hx hb dL_isRound_531 (lv_at hl 0 rfl) ?_
                                      refine lv_bipush (v := nI 6) hx hb dL_isRound_533 (by decide) ?_
                                      have hPc : va_P D vwCl (pm_cl y L T Bs71 pi72 kn73 Gs sv U) H := pq_cut hP
                                      refine vp_callSi (W.runV (As := [.int (nI 1), .int (nI 6)]) (rest := []) ⟨hx, hb, hml, hown, hts⟩ (k_X3_editor l D y L T Bs71 pi72 kn73 Gs sv U Bs Gs (nI 1) (nI 6) hIT.1) (cwV 2 hts gL_isRound_X3_editor rfl rfl rfl hd_X3_editor ⟨Nat.le_of_ble_eq_true rfl, Nat.le_of_ble_eq_true rfl⟩) ⟨pm_ro_blind, va_recv hK hPc (ci := 3) (q0 := 0) rfl rfl, pm_ro_pre hPc hK⟩ rfl rfl hl.1 rfl (lv_room (Nat.le_of_ble_eq_true rfl)) dL_isRound_535 ⟨Nat.le_of_ble_eq_true rfl, Nat.le_of_ble_eq_true rfl⟩) (fun r148 h149 => ?_)
                                      obtain rfl : r148 = nI (T 8 1) := h149.trans (pq_ed6 (by omega))
                                      refine lv_aload_n hx hb dL_isRound_538 rfl (lv_at hl 2 rfl) ?_
                                      refine lv_bipush (v := nI 33) hx hb dL_isRound_539 (by decide) ?_
                                      refine lv_iload hx hb dL_isRound_541 (lv_at hl 0 rfl) ?_
                                      refine kx_iadd hx hb dL_isRound_543 ?_
                                      refine lv_topi (fun x150 e151 => ?_)
                                      obtain rfl : x150 = nI 34 := e151.trans (rfl)
                                      refine kx_iald (v := nI (S 8 1 + pq_fn S 1 30)) hx hb hK hP 0 0 rfl rfl (by decide) (by decide) (z3 1 (by decide)) dL_isRound_544 ?_
                                      refine lv_icmp_eq (tgt := 550) hx hb dL_isRound_545 (by decide) (fun c152 => ?_) (fun c152 => by exfalso; exact c152 (by rw [t8]))
                                      refine lv_iinc (v := nI 2) (lv' := [(7, .int (nI 2)), (0, .ref (L 0 0)), (1, .ref dd), (2, .int (nI (pm_bc S 1 30))), (3, .int (nI (pm_bc S 2 30 + pm_hm S 2 30))), (4, .int (nI (pm_bc S 0 30))), (5, .int (nI (S 10 0))), (6, .int (nI (pm_bc S 1 30)))]) hx hb dL_isRound_550 hl (k := 0) rfl (by decide) (by decide) rfl (fun ls hl => ?_)
                                      refine lv_goto (tgt := 488) hx hb dL_isRound_553 (by decide) ?_
                                      refine lv_iload hx hb dL_isRound_488 (lv_at hl 0 rfl) ?_
                                      refine lv_iconst (v := nI 3) hx hb dL_isRound_490 (by decide) ?_
                                      refine lv_icmp_ge (tgt := 556) hx hb dL_isRound_491 (by decide) (fun c153 => absurd c153 (by decide)) (fun _ => ?_)
                                      obtain ⟨t5, t8⟩ := hR.2.1 2 (by decide)
                                      have t5 := pq_t5 t5
                                      have := hI.1.pts 2 (by decide)
                                      refine lv_aload_n hx hb dL_isRound_494 rfl (lv_at hl 1 rfl) ?_
                                      refine lv_iload hx hb dL_isRound_495 (lv_at hl 0 rfl) ?_
                                      refine lv_iconst (v := nI 0) hx hb dL_isRound_497 (by decide) ?_
                                      have hPc : va_P D vwCl (pm_cl y L T Bs71 pi72 kn73 Gs sv U) H := pq_cut hP
                                      refine vp_callSi (W.runV (As := [.int (nI 2), .int (nI 0)]) (rest := []) ⟨hx, hb, hml, hown, hts⟩ (k_X3_editor l D y L T Bs71 pi72 kn73 Gs sv U Bs Gs (nI 2) (nI 0) hIT.1) (cwV 2 hts gL_isRound_X3_editor rfl rfl rfl hd_X3_editor ⟨Nat.le_of_ble_eq_true rfl, Nat.le_of_ble_eq_true rfl⟩) ⟨pm_ro_blind, va_recv hK hPc (ci := 3) (q0 := 0) rfl rfl, pm_ro_pre hPc hK⟩ rfl rfl hl.1 rfl (lv_room (Nat.le_of_ble_eq_true rfl)) dL_isRound_498 ⟨Nat.le_of_ble_eq_true rfl, Nat.le_of_ble_eq_true rfl⟩) (fun r154 h155 => ?_)
                                      obtain rfl : r154 = nI (T 5 2) := h155.trans (pq_ed0 (by omega))
                                      have := hIT.1.pts 2 (by omega)
                                      refine lv_aload_n hx hb dL_isRound_501 rfl (lv_at hl 2 rfl) ?_
                                      refine lv_bipush (v := nI 30) hx hb dL_isRound_502 (by decide) ?_
                                      refine lv_iload hx hb dL_isRound_504 (lv_at hl 0 rfl) ?_
                                      refine kx_iadd hx hb dL_isRound_506 ?_
                                      refine lv_topi (fun x156 e157 => ?_)
                                      obtain rfl : x156 = nI 32 := e157.trans (rfl)
                                      refine kx_iald (v := nI (S 5 2)) hx hb hK hP 0 0 rfl rfl (by decide) (by decide) (z2 2 (by decide)) dL_isRound_507 ?_
                                      refine lv_bipush (v := nI 17) hx hb dL_isRound_508 (by decide) ?_
                                      refine kx_icmp_le (tgt := 518) hx hb (by omega) (by decide) dL_isRound_510 (by decide) (fun c158 => ?_) (fun c158 => ?_)
                                      · skip
                                        refine lv_aload_n hx hb dL_isRound_518 rfl (lv_at hl 2 rfl) ?_
                                        refine lv_bipush (v := nI 30) hx hb dL_isRound_519 (by decide) ?_
                                        refine lv_iload hx hb dL_isRound_521 (lv_at hl 0 rfl) ?_
                                        refine kx_iadd hx hb dL_isRound_523 ?_
                                        refine lv_topi (fun x159 e160 => ?_)
                                        obtain rfl : x159 = nI 32 := e160.trans (rfl)
                                        refine kx_iald (v := nI (S 5 2)) hx hb hK hP 0 0 rfl rfl (by decide) (by decide) (z2 2 (by decide)) dL_isRound_524 ?_
                                        refine lv_iconst (v := nI 2) hx hb dL_isRound_525 (by decide) ?_
                                        refine kx_iadd hx hb dL_isRound_526 ?_
                                        refine kx_icmp_ne (tgt := 548) hx hb (by omega) (by omega) dL_isRound_527 (by decide) (fun c161 => by exfalso; omega) (fun c161 => ?_)
                                        refine lv_aload_n hx hb dL_isRound_530 rfl (lv_at hl 1 rfl) ?_
                                        refine lv_iload hx hb dL_isRound_531 (lv_at hl 0 rfl) ?_
                                        refine lv_bipush (v := nI 6) hx hb dL_isRound_533 (by decide) ?_
                                        have hPc : va_P D vwCl (pm_cl y L T Bs71 pi72 kn73 Gs sv U) H := pq_cut hP
                                        refine vp_callSi (W.runV (As := [.int (nI 2), .int (nI 6)]) (rest := []) ⟨hx, hb, hml, hown, hts⟩ (k_X3_editor l D y L T Bs71 pi72 kn73 Gs sv U Bs Gs (nI 2) (nI 6) hIT.1) (cwV 2 hts gL_isRound_X3_editor rfl rfl rfl hd_X3_editor ⟨Nat.le_of_ble_eq_true rfl, Nat.le_of_ble_eq_true rfl⟩) ⟨pm_ro_blind, va_recv hK hPc (ci := 3) (q0 := 0) rfl rfl, pm_ro_pre hPc hK⟩ rfl rfl hl.1 rfl (lv_room (Nat.le_of_ble_eq_true rfl)) dL_isRound_535 ⟨Nat.le_of_ble_eq_true rfl, Nat.le_of_ble_eq_true rfl⟩) (fun r162 h163 => ?_)
                                        obtain rfl : r162 = nI (T 8 2) := h163.trans (pq_ed6 (by omega))
                                        refine lv_aload_n hx hb dL_isRound_538 rfl (lv_at hl 2 rfl) ?_
                                        refine lv_bipush (v := nI 33) hx hb dL_isRound_539 (by decide) ?_
                                        refine lv_iload hx hb dL_isRound_541 (lv_at hl 0 rfl) ?_
                                        refine kx_iadd hx hb dL_isRound_543 ?_
                                        refine lv_topi (fun x164 e165 => ?_)
                                        obtain rfl : x164 = nI 35 := e165.trans (rfl)
                                        refine kx_iald (v := nI (S 8 2 + pq_fn S 2 30)) hx hb hK hP 0 0 rfl rfl (by decide) (by decide) (z3 2 (by decide)) dL_isRound_544 ?_
                                        refine lv_icmp_eq (tgt := 550) hx hb dL_isRound_545 (by decide) (fun c166 => ?_) (fun c166 => by exfalso; exact c166 (by rw [t8]))
                                        refine lv_iinc (v := nI 3) (lv' := [(7, .int (nI 3)), (0, .ref (L 0 0)), (1, .ref dd), (2, .int (nI (pm_bc S 1 30))), (3, .int (nI (pm_bc S 2 30 + pm_hm S 2 30))), (4, .int (nI (pm_bc S 0 30))), (5, .int (nI (S 10 0))), (6, .int (nI (pm_bc S 1 30)))]) hx hb dL_isRound_550 hl (k := 0) rfl (by decide) (by decide) rfl (fun ls hl => ?_)
                                        refine lv_goto (tgt := 488) hx hb dL_isRound_553 (by decide) ?_
                                        refine lv_iload hx hb dL_isRound_488 (lv_at hl 0 rfl) ?_
                                        refine lv_iconst (v := nI 3) hx hb dL_isRound_490 (by decide) ?_
                                        refine lv_icmp_ge (tgt := 556) hx hb dL_isRound_491 (by decide) (fun _ => ?_) (fun c167 => (c167 (by decide)).elim)
                                        have hc3 := pq_c3 hR
                                        have hc1 := pq_c1 hR
                                        have h10 := hR.2.2
                                        have := hI.1.rnd
                                        refine lv_iload hx hb dL_isRound_556 (lv_at hl 7 rfl) ?_
                                        refine lv_iload_n hx hb dL_isRound_558 rfl (lv_at hl 3 rfl) ?_
                                        refine kx_icmp_ne (tgt := 597) hx hb (by omega) (by omega) dL_isRound_559 (by decide) (fun c168 => by exfalso; omega) (fun c168 => ?_)
                                        refine lv_aload_n hx hb dL_isRound_562 rfl (lv_at hl 1 rfl) ?_
                                        refine lv_iconst (v := nI 3) hx hb dL_isRound_563 (by decide) ?_
                                        have hPc : va_P D vwCl (pm_cl y L T Bs71 pi72 kn73 Gs sv U) H := pq_cut hP
                                        refine vp_callSi (W.runV (As := [.int (nI 3)]) (rest := []) ⟨hx, hb, hml, hown, hts⟩ (k_X3_count l D y L T Bs71 pi72 kn73 Gs sv U Bs Gs (nI 3) hIT.1) (cwV 1 hts gL_isRound_X3_count rfl rfl rfl hd_X3_count ⟨Nat.le_of_ble_eq_true rfl, Nat.le_of_ble_eq_true rfl⟩) ⟨pm_ron_blind, va_recv hK hPc (ci := 3) (q0 := 0) rfl rfl, pm_ron_pre hPc hK hN⟩ rfl rfl hl.1 rfl (lv_room (Nat.le_of_ble_eq_true rfl)) dL_isRound_564 ⟨Nat.le_of_ble_eq_true rfl, Nat.le_of_ble_eq_true rfl⟩) (fun r169 h170 => ?_)
                                        obtain rfl : r169 = nI (pm_hm T 2 30) := h170.trans (pq_co3)
                                        have := pq_hm_le T 2 30
                                        refine lv_iload_n hx hb dL_isRound_567 rfl (lv_at hl 4 rfl) ?_
                                        refine kx_icmp_ne (tgt := 597) hx hb (by omega) (by omega) dL_isRound_568 (by decide) (fun c171 => by exfalso; omega) (fun c171 => ?_)
                                        refine lv_aload_n hx hb dL_isRound_571 rfl (lv_at hl 1 rfl) ?_
                                        refine lv_iconst (v := nI 1) hx hb dL_isRound_572 (by decide) ?_
                                        have hPc : va_P D vwCl (pm_cl y L T Bs71 pi72 kn73 Gs sv U) H := pq_cut hP
                                        refine vp_callSi (W.runV (As := [.int (nI 1)]) (rest := []) ⟨hx, hb, hml, hown, hts⟩ (k_X3_count l D y L T Bs71 pi72 kn73 Gs sv U Bs Gs (nI 1) hIT.1) (cwV 1 hts gL_isRound_X3_count rfl rfl rfl hd_X3_count ⟨Nat.le_of_ble_eq_true rfl, Nat.le_of_ble_eq_true rfl⟩) ⟨pm_ron_blind, va_recv hK hPc (ci := 3) (q0 := 0) rfl rfl, pm_ron_pre hPc hK hN⟩ rfl rfl hl.1 rfl (lv_room (Nat.le_of_ble_eq_true rfl)) dL_isRound_573 ⟨Nat.le_of_ble_eq_true rfl, Nat.le_of_ble_eq_true rfl⟩) (fun r172 h173 => ?_)
                                        obtain rfl : r172 = nI (pm_hm T 0 30) := h173.trans (pq_co1)
                                        have := pq_hm_le T 0 30
                                        refine lv_iload hx hb dL_isRound_576 (lv_at hl 5 rfl) ?_
                                        refine kx_icmp_ne (tgt := 597) hx hb (by omega) (by omega) dL_isRound_578 (by decide) (fun c174 => by exfalso; omega) (fun c174 => ?_)
                                        refine lv_aload_n hx hb dL_isRound_581 rfl (lv_at hl 1 rfl) ?_
                                        refine lv_iconst (v := nI 0) hx hb dL_isRound_582 (by decide) ?_
                                        have hPc : va_P D vwCl (pm_cl y L T Bs71 pi72 kn73 Gs sv U) H := pq_cut hP
                                        refine vp_callSi (W.runV (As := [.int (nI 0)]) (rest := []) ⟨hx, hb, hml, hown, hts⟩ (k_X3_count l D y L T Bs71 pi72 kn73 Gs sv U Bs Gs (nI 0) hIT.1) (cwV 1 hts gL_isRound_X3_count rfl rfl rfl hd_X3_count ⟨Nat.le_of_ble_eq_true rfl, Nat.le_of_ble_eq_true rfl⟩) ⟨pm_ron_blind, va_recv hK hPc (ci := 3) (q0 := 0) rfl rfl, pm_ron_pre hPc hK hN⟩ rfl rfl hl.1 rfl (lv_room (Nat.le_of_ble_eq_true rfl)) dL_isRound_583 ⟨Nat.le_of_ble_eq_true rfl, Nat.le_of_ble_eq_true rfl⟩) (fun r175 h176 => ?_)
                                        obtain rfl : r175 = nI (T 10 0) := h176.trans (pq_co0)
                                        have := hIT.1.rnd
                                        refine lv_iload hx hb dL_isRound_586 (lv_at hl 6 rfl) ?_
                                        refine lv_iconst (v := nI 1) hx hb dL_isRound_588 (by decide) ?_
                                        refine kx_iadd hx hb dL_isRound_589 ?_
                                        refine kx_icmp_ne (tgt := 597) hx hb (by omega) (by omega) dL_isRound_590 (by decide) (fun c177 => by exfalso; omega) (fun c177 => ?_)
                                        refine lv_iconst (v := nI 1) hx hb dL_isRound_593 (by decide) ?_
                                        refine lv_goto (tgt := 598) hx hb dL_isRound_594 (by decide) ?_
                                        exact W.zret (ty := .boolean) hx hb hr rfl (fun t ht _ => ⟨⟨_, ((T, Bs71, pi72, kn73), Z), rfl, ⟨rfl, hIT, hC70⟩, (by show va_P D vwCl ((dd, .inl ((y 0), 36, .inl Z)) :: pm_cl y L T Bs71 pi72 kn73 Gs sv U) t.heap; rw [ht]; exact hP)⟩, hS.F ht⟩) hS.2.2 dL_isRound_598
                                      · skip
                                        refine lv_bipush (v := nI 20) hx hb dL_isRound_513 (by decide) ?_
                                        refine lv_goto (tgt := 527) hx hb dL_isRound_515 (by decide) ?_
                                        refine kx_icmp_ne (tgt := 548) hx hb (by omega) (by decide) dL_isRound_527 (by decide) (fun c178 => by exfalso; omega) (fun c178 => ?_)
                                        refine lv_aload_n hx hb dL_isRound_530 rfl (lv_at hl 1 rfl) ?_
                                        refine lv_iload hx hb dL_isRound_531 (lv_at hl 0 rfl) ?_
                                        refine lv_bipush (v := nI 6) hx hb dL_isRound_533 (by decide) ?_
                                        have hPc : va_P D vwCl (pm_cl y L T Bs71 pi72 kn73 Gs sv U) H := pq_cut hP
                                        refine vp_callSi (W.runV (As := [.int (nI 2), .int (nI 6)]) (rest := []) ⟨hx, hb, hml, hown, hts⟩ (k_X3_editor l D y L T Bs71 pi72 kn73 Gs sv U Bs Gs (nI 2) (nI 6) hIT.1) (cwV 2 hts gL_isRound_X3_editor rfl rfl rfl hd_X3_editor ⟨Nat.le_of_ble_eq_true rfl, Nat.le_of_ble_eq_true rfl⟩) ⟨pm_ro_blind, va_recv hK hPc (ci := 3) (q0 := 0) rfl rfl, pm_ro_pre hPc hK⟩ rfl rfl hl.1 rfl (lv_room (Nat.le_of_ble_eq_true rfl)) dL_isRound_535 ⟨Nat.le_of_ble_eq_true rfl, Nat.le_of_ble_eq_true rfl⟩) (fun r179 h180 => ?_)
                                        obtain rfl : r179 = nI (T 8 2) := h180.trans (pq_ed6 (by omega))
                                        refine lv_aload_n hx hb dL_isRound_538 rfl (lv_at hl 2 rfl) ?_
                                        refine lv_bipush (v := nI 33) hx hb dL_isRound_539 (by decide) ?_
                                        refine lv_iload hx hb dL_isRound_541 (lv_at hl 0 rfl) ?_
                                        refine kx_iadd hx hb dL_isRound_543 ?_
                                        refine lv_topi (fun x181 e182 => ?_)
                                        obtain rfl : x181 = nI 35 := e182.trans (rfl)
                                        refine kx_iald (v := nI (S 8 2 + pq_fn S 2 30)) hx hb hK hP 0 0 rfl rfl (by decide) (by decide) (z3 2 (by decide)) dL_isRound_544 ?_
                                        refine lv_icmp_eq (tgt := 550) hx hb dL_isRound_545 (by decide) (fun c183 => ?_) (fun c183 => by exfalso; exact c183 (by rw [t8]))
                                        refine lv_iinc (v := nI 3) (lv' := [(7, .int (nI 3)), (0, .ref (L 0 0)), (1, .ref dd), (2, .int (nI (pm_bc S 1 30))), (3, .int (nI (pm_bc S 2 30 + pm_hm S 2 30))), (4, .int (nI (pm_bc S 0 30))), (5, .int (nI (S 10 0))), (6, .int (nI (pm_bc S 1 30)))]) hx hb dL_isRound_550 hl (k := 0) rfl (by decide) (by decide) rfl (fun ls hl => ?_)
                                        refine lv_goto (tgt := 488) hx hb dL_isRound_553 (by decide) ?_
                                        refine lv_iload hx hb dL_isRound_488 (lv_at hl 0 rfl) ?_
                                        refine lv_iconst (v := nI 3) hx hb dL_isRound_490 (by decide) ?_
                                        refine lv_icmp_ge (tgt := 556) hx hb dL_isRound_491 (by decide) (fun _ => ?_) (fun c184 => (c184 (by decide)).elim)
                                        have hc3 := pq_c3 hR
                                        have hc1 := pq_c1 hR
                                        have h10 := hR.2.2
                                        have := hI.1.rnd
                                        refine lv_iload hx hb dL_isRound_556 (lv_at hl 7 rfl) ?_
                                        refine lv_iload_n hx hb dL_isRound_558 rfl (lv_at hl 3 rfl) ?_
                                        refine kx_icmp_ne (tgt := 597) hx hb (by omega) (by omega) dL_isRound_559 (by decide) (fun c185 => by exfalso; omega) (fun c185 => ?_)
                                        refine lv_aload_n hx hb dL_isRound_562 rfl (lv_at hl 1 rfl) ?_
                                        refine lv_iconst (v := nI 3) hx hb dL_isRound_563 (by decide) ?_
                                        have hPc : va_P D vwCl (pm_cl y L T Bs71 pi72 kn73 Gs sv U) H := pq_cut hP
                                        refine vp_callSi (W.runV (As := [.int (nI 3)]) (rest := []) ⟨hx, hb, hml, hown, hts⟩ (k_X3_count l D y L T Bs71 pi72 kn73 Gs sv U Bs Gs (nI 3) hIT.1) (cwV 1 hts gL_isRound_X3_count rfl rfl rfl hd_X3_count ⟨Nat.le_of_ble_eq_true rfl, Nat.le_of_ble_eq_true rfl⟩) ⟨pm_ron_blind, va_recv hK hPc (ci := 3) (q0 := 0) rfl rfl, pm_ron_pre hPc hK hN⟩ rfl rfl hl.1 rfl (lv_room (Nat.le_of_ble_eq_true rfl)) dL_isRound_564 ⟨Nat.le_of_ble_eq_true rfl, Nat.le_of_ble_eq_true rfl⟩) (fun r186 h187 => ?_)
                                        obtain rfl : r186 = nI (pm_hm T 2 30) := h187.trans (pq_co3)
                                        have := pq_hm_le T 2 30
                                        refine lv_iload_n hx hb dL_isRound_567 rfl (lv_at hl 4 rfl) ?_
                                        refine kx_icmp_ne (tgt := 597) hx hb (by omega) (by omega) dL_isRound_568 (by decide) (fun c188 => by exfalso; omega) (fun c188 => ?_)
                                        refine lv_aload_n hx hb dL_isRound_571 rfl (lv_at hl 1 rfl) ?_
                                        refine lv_iconst (v := nI 1) hx hb dL_isRound_572 (by decide) ?_
                                        have hPc : va_P D vwCl (pm_cl y L T Bs71 pi72 kn73 Gs sv U) H := pq_cut hP
                                        refine vp_callSi (W.runV (As := [.int (nI 1)]) (rest := []) ⟨hx, hb, hml, hown, hts⟩ (k_X3_count l D y L T Bs71 pi72 kn73 Gs sv U Bs Gs (nI 1) hIT.1) (cwV 1 hts gL_isRound_X3_count rfl rfl rfl hd_X3_count ⟨Nat.le_of_ble_eq_true rfl, Nat.le_of_ble_eq_true rfl⟩) ⟨pm_ron_blind, va_recv hK hPc (ci := 3) (q0 := 0) rfl rfl, pm_ron_pre hPc hK hN⟩ rfl rfl hl.1 rfl (lv_room (Nat.le_of_ble_eq_true rfl)) dL_isRound_573 ⟨Nat.le_of_ble_eq_true rfl, Nat.le_of_ble_eq_true rfl⟩) (fun r189 h190 => ?_)
                                        obtain rfl : r189 = nI (pm_hm T 0 30) := h190.trans (pq_co1)
                                        have := pq_hm_le T 0 30
                                        refine lv_iload hx hb dL_isRound_576 (lv_at hl 5 rfl) ?_
                                        refine kx_icmp_ne (tgt := 597) hx hb (by omega) (by omega) dL_isRound_578 (by decide) (fun c191 => by exfalso; omega) (fun c191 => ?_)
                                        refine lv_aload_n hx hb dL_isRound_581 rfl (lv_at hl 1 rfl) ?_
                                        refine lv_iconst (v := nI 0) hx hb dL_isRound_582 (by decide) ?_
                                        have hPc : va_P D vwCl (pm_cl y L T Bs71 pi72 kn73 Gs sv U) H := pq_cut hP
                                        refine vp_callSi (W.runV (As := [.int (nI 0)]) (rest := []) ⟨hx, hb, hml, hown, hts⟩ (k_X3_count l D y L T Bs71 pi72 kn73 Gs sv U Bs Gs (nI 0) hIT.1) (cwV 1 hts gL_isRound_X3_count rfl rfl rfl hd_X3_count ⟨Nat.le_of_ble_eq_true rfl, Nat.le_of_ble_eq_true rfl⟩) ⟨pm_ron_blind, va_recv hK hPc (ci := 3) (q0 := 0) rfl rfl, pm_ron_pre hPc hK hN⟩ rfl rfl hl.1 rfl (lv_room (Nat.le_of_ble_eq_true rfl)) dL_isRound_583 ⟨Nat.le_of_ble_eq_true rfl, Nat.le_of_ble_eq_true rfl⟩) (fun r192 h193 => ?_)
                                        obtain rfl : r192 = nI (T 10 0) := h193.trans (pq_co0)
                                        have := hIT.1.rnd
                                        refine lv_iload hx hb dL_isRound_586 (lv_at hl 6 rfl) ?_
                                        refine lv_iconst (v := nI 1) hx hb dL_isRound_588 (by decide) ?_
                                        refine kx_iadd hx hb dL_isRound_589 ?_
                                        refine kx_icmp_ne (tgt := 597) hx hb (by omega) (by omega) dL_isRound_590 (by decide) (fun c194 => by exfalso; omega) (fun c194 => ?_)
                                        refine lv_iconst (v := nI 1) hx hb dL_isRound_593 (by decide) ?_
                                        refine lv_goto (tgt := 598) hx hb dL_isRound_594 (by decide) ?_
                                        exact W.zret (ty := .boolean) hx hb hr rfl (fun t ht _ => ⟨⟨_, ((T, Bs71, pi72, kn73), Z), rfl, ⟨rfl, hIT, hC70⟩, (by show va_P D vwCl ((dd, .inl ((y 0), 36, .inl Z)) :: pm_cl y L T Bs71 pi72 kn73 Gs sv U) t.heap; rw [ht]; exact hP)⟩, hS.F ht⟩) hS.2.2 dL_isRound_598
                                  · skip
                                    refine lv_bipush (v := nI 20) hx hb dL_isRound_513 (by decide) ?_
                                    refine lv_goto (tgt := 527) hx hb dL_isRound_515 (by decide) ?_
                                    refine kx_icmp_ne (tgt := 548) hx hb (by omega) (by decide) dL_isRound_527 (by decide) (fun c195 => by exfalso; omega) (fun c195 => ?_)
                                    refine lv_aload_n hx hb dL_isRound_530 rfl (lv_at hl 1 rfl) ?_
                                    refine lv_iload hx hb dL_isRound_531 (lv_at hl 0 rfl) ?_
                                    refine lv_bipush (v := nI 6) hx hb dL_isRound_533 (by decide) ?_
                                    have hPc : va_P D vwCl (pm_cl y L T Bs71 pi72 kn73 Gs sv U) H := pq_cut hP
                                    refine vp_callSi (W.runV (As := [.int (nI 0), .int (nI 6)]) (rest := []) ⟨hx, hb, hml, hown, hts⟩ (k_X3_editor l D y L T Bs71 pi72 kn73 Gs sv U Bs Gs (nI 0) (nI 6) hIT.1) (cwV 2 hts gL_isRound_X3_editor rfl rfl rfl hd_X3_editor ⟨Nat.le_of_ble_eq_true rfl, Nat.le_of_ble_eq_true rfl⟩) ⟨pm_ro_blind, va_recv hK hPc (ci := 3) (q0 := 0) rfl rfl, pm_ro_pre hPc hK⟩ rfl rfl hl.1 rfl (lv_room (Nat.le_of_ble_eq_true rfl)) dL_isRound_535 ⟨Nat.le_of_ble_eq_true rfl, Nat.le_of_ble_eq_true rfl⟩) (fun r196 h197 => ?_)
                                    obtain rfl : r196 = nI (T 8 0) := h197.trans (pq_ed6 (by omega))
                                    refine lv_aload_n hx hb dL_isRound_538 rfl (lv_at hl 2 rfl) ?_
                                    refine lv_bipush (v := nI 33) hx hb dL_isRound_539 (by decide) ?_
                                    refine lv_iload hx hb dL_isRound_541 (lv_at hl 0 rfl) ?_
                                    refine kx_iadd hx hb dL_isRound_543 ?_
                                    refine lv_topi (fun x198 e199 => ?_)
                                    obtain rfl : x198 = nI 33 := e199.trans (rfl)
                                    refine kx_iald (v := nI (S 8 0 + pq_fn S 0 30)) hx hb hK hP 0 0 rfl rfl (by decide) (by decide) (z3 0 (by decide)) dL_isRound_544 ?_
                                    refine lv_icmp_eq (tgt := 550) hx hb dL_isRound_545 (by decide) (fun c200 => ?_) (fun c200 => by exfalso; exact c200 (by rw [t8]))
                                    refine lv_iinc (v := nI 1) (lv' := [(7, .int (nI 1)), (0, .ref (L 0 0)), (1, .ref dd), (2, .int (nI (pm_bc S 1 30))), (3, .int (nI (pm_bc S 2 30 + pm_hm S 2 30))), (4, .int (nI (pm_bc S 0 30))), (5, .int (nI (S 10 0))), (6, .int (nI (pm_bc S 1 30)))]) hx hb dL_isRound_550 hl (k := 0) rfl (by decide) (by decide) rfl (fun ls hl => ?_)
                                    refine lv_goto (tgt := 488) hx hb dL_isRound_553 (by decide) ?_
                                    refine lv_iload hx hb dL_isRound_488 (lv_at hl 0 rfl) ?_
                                    refine lv_iconst (v := nI 3) hx hb dL_isRound_490 (by decide) ?_
                                    refine lv_icmp_ge (tgt := 556) hx hb dL_isRound_491 (by decide) (fun c201 => absurd c201 (by decide)) (fun _ => ?_)
                                    obtain ⟨t5, t8⟩ := hR.2.1 1 (by decide)
                                    have t5 := pq_t5 t5
                                    have := hI.1.pts 1 (by decide)
                                    refine lv_aload_n hx hb dL_isRound_494 rfl (lv_at hl 1 rfl) ?_
                                    refine lv_iload hx hb dL_isRound_495 (lv_at hl 0 rfl) ?_
                                    refine lv_iconst (v := nI 0) hx hb dL_isRound_497 (by decide) ?_
                                    have hPc : va_P D vwCl (pm_cl y L T Bs71 pi72 kn73 Gs sv U) H := pq_cut hP
                                    refine vp_callSi (W.runV (As := [.int (nI 1), .int (nI 0)]) (rest := []) ⟨hx, hb, hml, hown, hts⟩ (k_X3_editor l D y L T Bs71 pi72 kn73 Gs sv U Bs Gs (nI 1) (nI 0) hIT.1) (cwV 2 hts gL_isRound_X3_editor rfl rfl rfl hd_X3_editor ⟨Nat.le_of_ble_eq_true rfl, Nat.le_of_ble_eq_true rfl⟩) ⟨pm_ro_blind, va_recv hK hPc (ci := 3) (q0 := 0) rfl rfl, pm_ro_pre hPc hK⟩ rfl rfl hl.1 rfl (lv_room (Nat.le_of_ble_eq_true rfl)) dL_isRound_498 ⟨Nat.le_of_ble_eq_true rfl, Nat.le_of_ble_eq_true rfl⟩) (fun r202 h203 => ?_)
                                    obtain rfl : r202 = nI (T 5 1) := h203.trans (pq_ed0 (by omega))
                                    have := hIT.1.pts 1 (by omega)
                                    refine lv_aload_n hx hb dL_isRound_501 rfl (lv_at hl 2 rfl) ?_
                                    refine lv_bipush (v := nI 30) hx hb dL_isRound_502 (by decide) ?_
                                    refine lv_iload hx hb dL_isRound_504 (lv_at hl 0 rfl) ?_
                                    refine kx_iadd hx hb dL_isRound_506 ?_
                                    refine lv_topi (fun x204 e205 => ?_)
                                    obtain rfl : x204 = nI 31 := e205.trans (rfl)
                                    refine kx_iald (v := nI (S 5 1)) hx hb hK hP 0 0 rfl rfl (by decide) (by decide) (z2 1 (by decide)) dL_isRound_507 ?_
                                    refine lv_bipush (v := nI 17) hx hb dL_isRound_508 (by decide) ?_
                                    refine kx_icmp_le (tgt := 518) hx hb (by omega) (by decide) dL_isRound_510 (by decide) (fun c206 => ?_) (fun c206 => ?_)
                                    · skip
                                      refine lv_aload_n hx hb dL_isRound_518 rfl (lv_at hl 2 rfl) ?_
                                      refine lv_bipush (v := nI 30) hx hb dL_isRound_519 (by decide) ?_
                                      refine lv_iload hx hb dL_isRound_521 (lv_at hl 0 rfl) ?_
                                      refine kx_iadd hx hb dL_isRound_523 ?_
                                      refine lv_topi (fun x207 e208 => ?_)
                                      obtain rfl : x207 = nI 31 := e208.trans (rfl)
                                      refine kx_iald (v := nI (S 5 1)) hx hb hK hP 0 0 rfl rfl (by decide) (by decide) (z2 1 (by decide)) dL_isRound_524 ?_
                                      refine lv_iconst (v := nI 2) hx hb dL_isRound_525 (by decide) ?_
                                      refine kx_iadd hx hb dL_isRound_526 ?_
                                      refine kx_icmp_ne (tgt := 548) hx hb (by omega) (by omega) dL_isRound_527 (by decide) (fun c209 => by exfalso; omega) (fun c209 => ?_)
                                      refine lv_aload_n hx hb dL_isRound_530 rfl (lv_at hl 1 rfl) ?_
                                      refine lv_iload hx hb dL_isRound_531 (lv_at hl 0 rfl) ?_
                                      refine lv_bipush (v := nI 6) hx hb dL_isRound_533 (by decide) ?_
                                      have hPc : va_P D vwCl (pm_cl y L T Bs71 pi72 kn73 Gs sv U) H := pq_cut hP
                                      refine vp_callSi (W.runV (As := [.int (nI 1), .int (nI 6)]) (rest := []) ⟨hx, hb, hml, hown, hts⟩ (k_X3_editor l D y L T Bs71 pi72 kn73 Gs sv U Bs Gs (nI 1) (nI 6) hIT.1) (cwV 2 hts gL_isRound_X3_editor rfl rfl rfl hd_X3_editor ⟨Nat.le_of_ble_eq_true rfl, Nat.le_of_ble_eq_true rfl⟩) ⟨pm_ro_blind, va_recv hK hPc (ci := 3) (q0 := 0) rfl rfl, pm_ro_pre hPc hK⟩ rfl rfl hl.1 rfl (lv_room (Nat.le_of_ble_eq_true rfl)) dL_isRound_535 ⟨Nat.le_of_ble_eq_true rfl, Nat.le_of_ble_eq_true rfl⟩) (fun r210 h211 => ?_)
                                      obtain rfl : r210 = nI (T 8 1) := h211.trans (pq_ed6 (by omega))
                                      refine lv_aload_n hx hb dL_isRound_538 rfl (lv_at hl 2 rfl) ?_
                                      refine lv_bipush (v := nI 33) hx hb dL_isRound_539 (by decide) ?_
                                      refine lv_iload hx hb dL_isRound_541 (lv_at hl 0 rfl) ?_
                                      refine kx_iadd hx hb dL_isRound_543 ?_
                                      refine lv_topi (fun x212 e213 => ?_)
                                      obtain rfl : x212 = nI 34 := e213.trans (rfl)
                                      refine kx_iald (v := nI (S 8 1 + pq_fn S 1 30)) hx hb hK hP 0 0 rfl rfl (by decide) (by decide) (z3 1 (by decide)) dL_isRound_544 ?_
                                      refine lv_icmp_eq (tgt := 550) hx hb dL_isRound_545 (by decide) (fun c214 => ?_) (fun c214 => by exfalso; exact c214 (by rw [t8]))
                                      refine lv_iinc (v := nI 2) (lv' := [(7, .int (nI 2)), (0, .ref (L 0 0)), (1, .ref dd), (2, .int (nI (pm_bc S 1 30))), (3, .int (nI (pm_bc S 2 30 + pm_hm S 2 30))), (4, .int (nI (pm_bc S 0 30))), (5, .int (nI (S 10 0))), (6, .int (nI (pm_bc S 1 30)))]) hx hb dL_isRound_550 hl (k := 0) rfl (by decide) (by decide) rfl (fun ls hl => ?_)
                                      refine lv_goto (tgt := 488) hx hb dL_isRound_553 (by decide) ?_
                                      refine lv_iload hx hb dL_isRound_488 (lv_at hl 0 rfl) ?_
                                      refine lv_iconst (v := nI 3) hx hb dL_isRound_490 (by decide) ?_
                                      refine lv_icmp_ge (tgt := 556) hx hb dL_isRound_491 (by decide) (fun c215 => absurd c215 (by decide)) (fun _ => ?_)
                                      obtain ⟨t5, t8⟩ := hR.2.1 2 (by decide)
                                      have t5 := pq_t5 t5
                                      have := hI.1.pts 2 (by decide)
                                      refine lv_aload_n hx hb dL_isRound_494 rfl (lv_at hl 1 rfl) ?_
                                      refine lv_iload hx hb dL_isRound_495 (lv_at hl 0 rfl) ?_
                                      refine lv_iconst (v := nI 0) hx hb dL_isRound_497 (by decide) ?_
                                      have hPc : va_P D vwCl (pm_cl y L T Bs71 pi72 kn73 Gs sv U) H := pq_cut hP
                                      refine vp_callSi (W.runV (As := [.int (nI 2), .int (nI 0)]) (rest := []) ⟨hx, hb, hml, hown, hts⟩ (k_X3_editor l D y L T Bs71 pi72 kn73 Gs sv U Bs Gs (nI 2) (nI 0) hIT.1) (cwV 2 hts gL_isRound_X3_editor rfl rfl rfl hd_X3_editor ⟨Nat.le_of_ble_eq_true rfl, Nat.le_of_ble_eq_true rfl⟩) ⟨pm_ro_blind, va_recv hK hPc (ci := 3) (q0 := 0) rfl rfl, pm_ro_pre hPc hK⟩ rfl rfl hl.1 rfl (lv_room (Nat.le_of_ble_eq_true rfl)) dL_isRound_498 ⟨Nat.le_of_ble_eq_true rfl, Nat.le_of_ble_eq_true rfl⟩) (fun r216 h217 => ?_)
                                      obtain rfl : r216 = nI (T 5 2) := h217.trans (pq_ed0 (by omega))
                                      have := hIT.1.pts 2 (by omega)
                                      refine lv_aload_n hx hb dL_isRound_501 rfl (lv_at hl 2 rfl) ?_
                                      refine lv_bipush (v := nI 30) hx hb dL_isRound_502 (by decide) ?_
                                      refine lv_iload hx hb dL_isRound_504 (lv_at hl 0 rfl) ?_
                                      refine kx_iadd hx hb dL_isRound_506 ?_
                                      refine lv_topi (fun x218 e219 => ?_)
                                      obtain rfl : x218 = nI 32 := e219.trans (rfl)
                                      refine kx_iald (v := nI (S 5 2)) hx hb hK hP 0 0 rfl rfl (by decide) (by decide) (z2 2 (by decide)) dL_isRound_507 ?_
                                      refine lv_bipush (v := nI 17) hx hb dL_isRound_508 (by decide) ?_
                                      refine kx_icmp_le (tgt := 518) hx hb (by omega) (by decide) dL_isRound_510 (by decide) (fun c220 => ?_) (fun c220 => ?_)
                                      · skip
                                        refine lv_aload_n hx hb dL_isRound_518 rfl (lv_at hl 2 rfl) ?_
                                        refine lv_bipush (v := nI 30) hx hb dL_isRound_519 (by decide) ?_
                                        refine lv_iload hx hb dL_isRound_521 (lv_at hl 0 rfl) ?_
                                        refine kx_iadd hx hb dL_isRound_523 ?_
                                        refine lv_topi (fun x221 e222 => ?_)
                                        obtain rfl : x221 = nI 32 := e222.trans (rfl)
                                        refine kx_iald (v := nI (S 5 2)) hx hb hK hP 0 0 rfl rfl (by decide) (by decide) (z2 2 (by decide)) dL_isRound_524 ?_
                                        refine lv_iconst (v := nI 2) hx hb dL_isRound_525 (by decide) ?_
                                        refine kx_iadd hx hb dL_isRound_526 ?_
                                        refine kx_icmp_ne (tgt := 548) hx hb (by omega) (by omega) dL_isRound_527 (by decide) (fun c223 => by exfalso; omega) (fun c223 => ?_)
                                        refine lv_aload_n hx hb dL_isRound_530 rfl (lv_at hl 1 rfl) ?_
                                        refine lv_iload hx hb dL_isRound_531 (lv_at hl 0 rfl) ?_
                                        refine lv_bipush (v := nI 6) hx hb dL_isRound_533 (by decide) ?_
                                        have hPc : va_P D vwCl (pm_cl y L T Bs71 pi72 kn73 Gs sv U) H := pq_cut hP
                                        refine vp_callSi (W.runV (As := [.int (nI 2), .int (nI 6)]) (rest := []) ⟨hx, hb, hml, hown, hts⟩ (k_X3_editor l D y L T Bs71 pi72 kn73 Gs sv U Bs Gs (nI 2) (nI 6) hIT.1) (cwV 2 hts gL_isRound_X3_editor rfl rfl rfl hd_X3_editor ⟨Nat.le_of_ble_eq_true rfl, Nat.le_of_ble_eq_true rfl⟩) ⟨pm_ro_blind, va_recv hK hPc (ci := 3) (q0 := 0) rfl rfl, pm_ro_pre hPc hK⟩ rfl rfl hl.1 rfl (lv_room (Nat.le_of_ble_eq_true rfl)) dL_isRound_535 ⟨Nat.le_of_ble_eq_true rfl, Nat.le_of_ble_eq_true rfl⟩) (fun r224 h225 => ?_)
                                        obtain rfl : r224 = nI (T 8 2) := h225.trans (pq_ed6 (by omega))
                                        refine lv_aload_n hx hb dL_isRound_538 rfl (lv_at hl 2 rfl) ?_
                                        refine lv_bipush (v := nI 33) hx hb dL_isRound_539 (by decide) ?_
                                        refine lv_iload hx hb dL_isRound_541 (lv_at hl 0 rfl) ?_
                                        refine kx_iadd hx hb dL_isRound_543 ?_
                                        refine lv_topi (fun x226 e227 => ?_)
                                        obtain rfl : x226 = nI 35 := e227.trans (rfl)
                                        refine kx_iald (v := nI (S 8 2 + pq_fn S 2 30)) hx hb hK hP 0 0 rfl rfl (by decide) (by decide) (z3 2 (by decide)) dL_isRound_544 ?_
                                        refine lv_icmp_eq (tgt := 550) hx hb dL_isRound_545 (by decide) (fun c228 => ?_) (fun c228 => by exfalso; exact c228 (by rw [t8]))
                                        refine lv_iinc (v := nI 3) (lv' := [(7, .int (nI 3)), (0, .ref (L 0 0)), (1, .ref dd), (2, .int (nI (pm_bc S 1 30))), (3, .int (nI (pm_bc S 2 30 + pm_hm S 2 30))), (4, .int (nI (pm_bc S 0 30))), (5, .int (nI (S 10 0))), (6, .int (nI (pm_bc S 1 30)))]) hx hb dL_isRound_550 hl (k := 0) rfl (by decide) (by decide) rfl (fun ls hl => ?_)
                                        refine lv_goto (tgt := 488) hx hb dL_isRound_553 (by decide) ?_
                                        refine lv_iload hx hb dL_isRound_488 (lv_at hl 0 rfl) ?_
                                        refine lv_iconst (v := nI 3) hx hb dL_isRound_490 (by decide) ?_
                                        refine lv_icmp_ge (tgt := 556) hx hb dL_isRound_491 (by decide) (fun _ => ?_) (fun c229 => (c229 (by decide)).elim)
                                        have hc3 := pq_c3 hR
                                        have hc1 := pq_c1 hR
                                        have h10 := hR.2.2
                                        have := hI.1.rnd
                                        refine lv_iload hx hb dL_isRound_556 (lv_at hl 7 rfl) ?_
                                        refine lv_iload_n hx hb dL_isRound_558 rfl (lv_at hl 3 rfl) ?_
                                        refine kx_icmp_ne (tgt := 597) hx hb (by omega) (by omega) dL_isRound_559 (by decide) (fun c230 => by exfalso; omega) (fun c230 => ?_)
                                        refine lv_aload_n hx hb dL_isRound_562 rfl (lv_at hl 1 rfl) ?_
                                        refine lv_iconst (v := nI 3) hx hb dL_isRound_563 (by decide) ?_
                                        have hPc : va_P D vwCl (pm_cl y L T Bs71 pi72 kn73 Gs sv U) H := pq_cut hP
                                        refine vp_callSi (W.runV (As := [.int (nI 3)]) (rest := []) ⟨hx, hb, hml, hown, hts⟩ (k_X3_count l D y L T Bs71 pi72 kn73 Gs sv U Bs Gs (nI 3) hIT.1) (cwV 1 hts gL_isRound_X3_count rfl rfl rfl hd_X3_count ⟨Nat.le_of_ble_eq_true rfl, Nat.le_of_ble_eq_true rfl⟩) ⟨pm_ron_blind, va_recv hK hPc (ci := 3) (q0 := 0) rfl rfl, pm_ron_pre hPc hK hN⟩ rfl rfl hl.1 rfl (lv_room (Nat.le_of_ble_eq_true rfl)) dL_isRound_564 ⟨Nat.le_of_ble_eq_true rfl, Nat.le_of_ble_eq_true rfl⟩) (fun r231 h232 => ?_)
                                        obtain rfl : r231 = nI (pm_hm T 2 30) := h232.trans (pq_co3)
                                        have := pq_hm_le T 2 30
                                        refine lv_iload_n hx hb dL_isRound_567 rfl (lv_at hl 4 rfl) ?_
                                        refine kx_icmp_ne (tgt := 597) hx hb (by omega) (by omega) dL_isRound_568 (by decide) (fun c233 => by exfalso; omega) (fun c233 => ?_)
                                        refine lv_aload_n hx hb dL_isRound_571 rfl (lv_at hl 1 rfl) ?_
                                        refine lv_iconst (v := nI 1) hx hb dL_isRound_572 (by decide) ?_
                                        have hPc : va_P D vwCl (pm_cl y L T Bs71 pi72 kn73 Gs sv U) H := pq_cut hP
                                        refine vp_callSi (W.runV (As := [.int (nI 1)]) (rest := []) ⟨hx, hb, hml, hown, hts⟩ (k_X3_count l D y L T Bs71 pi72 kn73 Gs sv U Bs Gs (nI 1) hIT.1) (cwV 1 hts gL_isRound_X3_count rfl rfl rfl hd_X3_count ⟨Nat.le_of_ble_eq_true rfl, Nat.le_of_ble_eq_true rfl⟩) ⟨pm_ron_blind, va_recv hK hPc (ci := 3) (q0 := 0) rfl rfl, pm_ron_pre hPc hK hN⟩ rfl rfl hl.1 rfl (lv_room (Nat.le_of_ble_eq_true rfl)) dL_isRound_573 ⟨Nat.le_of_ble_eq_true rfl, Nat.le_of_ble_eq_true rfl⟩) (fun r234 h235 => ?_)
                                        obtain rfl : r234 = nI (pm_hm T 0 30) := h235.trans (pq_co1)
                                        have := pq_hm_le T 0 30
                                        refine lv_iload hx hb dL_isRound_576 (lv_at hl 5 rfl) ?_
                                        refine kx_icmp_ne (tgt := 597) hx hb (by omega) (by omega) dL_isRound_578 (by decide) (fun c236 => by exfalso; omega) (fun c236 => ?_)
                                        refine lv_aload_n hx hb dL_isRound_581 rfl (lv_at hl 1 rfl) ?_
                                        refine lv_iconst (v := nI 0) hx hb dL_isRound_582 (by decide) ?_
                                        have hPc : va_P D vwCl (pm_cl y L T Bs71 pi72 kn73 Gs sv U) H := pq_cut hP
                                        refine vp_callSi (W.runV (As := [.int (nI 0)]) (rest := []) ⟨hx, hb, hml, hown, hts⟩ (k_X3_count l D y L T Bs71 pi72 kn73 Gs sv U Bs Gs (nI 0) hIT.1) (cwV 1 hts gL_isRound_X3_count rfl rfl rfl hd_X3_count ⟨Nat.le_of_ble_eq_true rfl, Nat.le_of_ble_eq_true rfl⟩) ⟨pm_ron_blind, va_recv hK hPc (ci := 3) (q0 := 0) rfl rfl, pm_ron_pre hPc hK hN⟩ rfl rfl hl.1 rfl (lv_room (Nat.le_of_ble_eq_true rfl)) dL_isRound_583 ⟨Nat.le_of_ble_eq_true rfl, Nat.le_of_ble_eq_true rfl⟩) (fun r237 h238 => ?_)
                                        obtain rfl : r237 = nI (T 10 0) := h238.trans (pq_co0)
                                        have := hIT.1.rnd
                                        refine lv_iload hx hb dL_isRound_586 (lv_at hl 6 rfl) ?_
                                        refine lv_iconst (v := nI 1) hx hb dL_isRound_588 (by decide) ?_
                                        refine kx_iadd hx hb dL_isRound_589 ?_
                                        refine kx_icmp_ne (tgt := 597) hx hb (by omega) (by omega) dL_isRound_590 (by decide) (fun c239 => by exfalso; omega) (fun c239 => ?_)
                                        refine lv_iconst (v := nI 1) hx hb dL_isRound_593 (by decide) ?_
                                        refine lv_goto (tgt := 598) hx hb dL_isRound_594 (by decide) ?_
                                        exact W.zret (ty := .boolean) hx hb hr rfl (fun t ht _ => ⟨⟨_, ((T, Bs71, pi72, kn73), Z), rfl, ⟨rfl, hIT, hC70⟩, (by show va_P D vwCl ((dd, .inl ((y 0), 36, .inl Z)) :: pm_cl y L T Bs71 pi72 kn73 Gs sv U) t.heap; rw [ht]; exact hP)⟩, hS.F ht⟩) hS.2.2 dL_isRound_598
                                      · skip
                                        refine lv_bipush (v := nI 20) hx hb dL_isRound_513 (by decide) ?_
                                        refine lv_goto (tgt := 527) hx hb dL_isRound_515 (by decide) ?_
                                        refine kx_icmp_ne (tgt := 548) hx hb (by omega) (by decide) dL_isRound_527 (by decide) (fun c240 => by exfalso; omega) (fun c240 => ?_)
                                        refine lv_aload_n hx hb dL_isRound_530 rfl (lv_at hl 1 rfl) ?_
                                        refine lv_iload hx hb dL_isRound_531 (lv_at hl 0 rfl) ?_
                                        refine lv_bipush (v := nI 6) hx hb dL_isRound_533 (by decide) ?_
                                        have hPc : va_P D vwCl (pm_cl y L T Bs71 pi72 kn73 Gs sv U) H := pq_cut hP
                                        refine vp_callSi (W.runV (As := [.int (nI 2), .int (nI 6)]) (rest := []) ⟨hx, hb, hml, hown, hts⟩ (k_X3_editor l D y L T Bs71 pi72 kn73 Gs sv U Bs Gs (nI 2) (nI 6) hIT.1) (cwV 2 hts gL_isRound_X3_editor rfl rfl rfl hd_X3_editor ⟨Nat.le_of_ble_eq_true rfl, Nat.le_of_ble_eq_true rfl⟩) ⟨pm_ro_blind, va_recv hK hPc (ci := 3) (q0 := 0) rfl rfl, pm_ro_pre hPc hK⟩ rfl rfl hl.1 rfl (lv_room (Nat.le_of_ble_eq_true rfl)) dL_isRound_535 ⟨Nat.le_of_ble_eq_true rfl, Nat.le_of_ble_eq_true rfl⟩) (fun r241 h242 => ?_)
                                        obtain rfl : r241 = nI (T 8 2) := h242.trans (pq_ed6 (by omega))
                                        refine lv_aload_n hx hb dL_isRound_538 rfl (lv_at hl 2 rfl) ?_
                                        refine lv_bipush (v := nI 33) hx hb dL_isRound_539 (by decide) ?_
                                        refine lv_iload hx hb dL_isRound_541 (lv_at hl 0 rfl) ?_
                                        refine kx_iadd hx hb dL_isRound_543 ?_
                                        refine lv_topi (fun x243 e244 => ?_)
                                        obtain rfl : x243 = nI 35 := e244.trans (rfl)
                                        refine kx_iald (v := nI (S 8 2 + pq_fn S 2 30)) hx hb hK hP 0 0 rfl rfl (by decide) (by decide) (z3 2 (by decide)) dL_isRound_544 ?_
                                        refine lv_icmp_eq (tgt := 550) hx hb dL_isRound_545 (by decide) (fun c245 => ?_) (fun c245 => by exfalso; exact c245 (by rw [t8]))
                                        refine lv_iinc (v := nI 3) (lv' := [(7, .int (nI 3)), (0, .ref (L 0 0)), (1, .ref dd), (2, .int (nI (pm_bc S 1 30))), (3, .int (nI (pm_bc S 2 30 + pm_hm S 2 30))), (4, .int (nI (pm_bc S 0 30))), (5, .int (nI (S 10 0))), (6, .int (nI (pm_bc S 1 30)))]) hx hb dL_isRound_550 hl (k := 0) rfl (by decide) (by decide) rfl (fun ls hl => ?_)
                                        refine lv_goto (tgt := 488) hx hb dL_isRound_553 (by decide) ?_
                                        refine lv_iload hx hb dL_isRound_488 (lv_at hl 0 rfl) ?_
                                        refine lv_iconst (v := nI 3) hx hb dL_isRound_490 (by decide) ?_
                                        refine lv_icmp_ge (tgt := 556) hx hb dL_isRound_491 (by decide) (fun _ => ?_) (fun c246 => (c246 (by decide)).elim)
                                        have hc3 := pq_c3 hR
                                        have hc1 := pq_c1 hR
                                        have h10 := hR.2.2
                                        have := hI.1.rnd
                                        refine lv_iload hx hb dL_isRound_556 (lv_at hl 7 rfl) ?_
                                        refine lv_iload_n hx hb dL_isRound_558 rfl (lv_at hl 3 rfl) ?_
                                        refine kx_icmp_ne (tgt := 597) hx hb (by omega) (by omega) dL_isRound_559 (by decide) (fun c247 => by exfalso; omega) (fun c247 => ?_)
                                        refine lv_aload_n hx hb dL_isRound_562 rfl (lv_at hl 1 rfl) ?_
                                        refine lv_iconst (v := nI 3) hx hb dL_isRound_563 (by decide) ?_
                                        have hPc : va_P D vwCl (pm_cl y L T Bs71 pi72 kn73 Gs sv U) H := pq_cut hP
                                        refine vp_callSi (W.runV (As := [.int (nI 3)]) (rest := []) ⟨hx, hb, hml, hown, hts⟩ (k_X3_count l D y L T Bs71 pi72 kn73 Gs sv U Bs Gs (nI 3) hIT.1) (cwV 1 hts gL_isRound_X3_count rfl rfl rfl hd_X3_count ⟨Nat.le_of_ble_eq_true rfl, Nat.le_of_ble_eq_true rfl⟩) ⟨pm_ron_blind, va_recv hK hPc (ci := 3) (q0 := 0) rfl rfl, pm_ron_pre hPc hK hN⟩ rfl rfl hl.1 rfl (lv_room (Nat.le_of_ble_eq_true rfl)) dL_isRound_564 ⟨Nat.le_of_ble_eq_true rfl, Nat.le_of_ble_eq_true rfl⟩) (fun r248 h249 => ?_)
                                        obtain rfl : r248 = nI (pm_hm T 2 30) := h249.trans (pq_co3)
                                        have := pq_hm_le T 2 30
                                        refine lv_iload_n hx hb dL_isRound_567 rfl (lv_at hl 4 rfl) ?_
                                        refine kx_icmp_ne (tgt := 597) hx hb (by omega) (by omega) dL_isRound_568 (by decide) (fun c250 => by exfalso; omega) (fun c250 => ?_)
                                        refine lv_aload_n hx hb dL_isRound_571 rfl (lv_at hl 1 rfl) ?_
                                        refine lv_iconst (v := nI 1) hx hb dL_isRound_572 (by decide) ?_
                                        have hPc : va_P D vwCl (pm_cl y L T Bs71 pi72 kn73 Gs sv U) H := pq_cut hP
                                        refine vp_callSi (W.runV (As := [.int (nI 1)]) (rest := []) ⟨hx, hb, hml, hown, hts⟩ (k_X3_count l D y L T Bs71 pi72 kn73 Gs sv U Bs Gs (nI 1) hIT.1) (cwV 1 hts gL_isRound_X3_count rfl rfl rfl hd_X3_count ⟨Nat.le_of_ble_eq_true rfl, Nat.le_of_ble_eq_true rfl⟩) ⟨pm_ron_blind, va_recv hK hPc (ci := 3) (q0 := 0) rfl rfl, pm_ron_pre hPc hK hN⟩ rfl rfl hl.1 rfl (lv_room (Nat.le_of_ble_eq_true rfl)) dL_isRound_573 ⟨Nat.le_of_ble_eq_true rfl, Nat.le_of_ble_eq_true rfl⟩) (fun r251 h252 => ?_)
                                        obtain rfl : r251 = nI (pm_hm T 0 30) := h252.trans (pq_co1)
                                        have := pq_hm_le T 0 30
                                        refine lv_iload hx hb dL_isRound_576 (lv_at hl 5 rfl) ?_
                                        refine kx_icmp_ne (tgt := 597) hx hb (by omega) (by omega) dL_isRound_578 (by decide) (fun c253 => by exfalso; omega) (fun c253 => ?_)
                                        refine lv_aload_n hx hb dL_isRound_581 rfl (lv_at hl 1 rfl) ?_
                                        refine lv_iconst (v := nI 0) hx hb dL_isRound_582 (by decide) ?_
                                        have hPc : va_P D vwCl (pm_cl y L T Bs71 pi72 kn73 Gs sv U) H := pq_cut hP
                                        refine vp_callSi (W.runV (As := [.int (nI 0)]) (rest := []) ⟨hx, hb, hml, hown, hts⟩ (k_X3_count l D y L T Bs71 pi72 kn73 Gs sv U Bs Gs (nI 0) hIT.1) (cwV 1 hts gL_isRound_X3_count rfl rfl rfl hd_X3_count ⟨Nat.le_of_ble_eq_true rfl, Nat.le_of_ble_eq_true rfl⟩) ⟨pm_ron_blind, va_recv hK hPc (ci := 3) (q0 := 0) rfl rfl, pm_ron_pre hPc hK hN⟩ rfl rfl hl.1 rfl (lv_room (Nat.le_of_ble_eq_true rfl)) dL_isRound_583 ⟨Nat.le_of_ble_eq_true rfl, Nat.le_of_ble_eq_true rfl⟩) (fun r254 h255 => ?_)
                                        obtain rfl : r254 = nI (T 10 0) := h255.trans (pq_co0)
                                        have := hIT.1.rnd
                                        refine lv_iload hx hb dL_isRound_586 (lv_at hl 6 rfl) ?_
                                        refine lv_iconst (v := nI 1) hx hb dL_isRound_588 (by decide) ?_
                                        refine kx_iadd hx hb dL_isRound_589 ?_
                                        refine kx_icmp_ne (tgt := 597) hx hb (by omega) (by omega) dL_isRound_590 (by decide) (fun c256 => by exfalso; omega) (fun c256 => ?_)
                                        refine lv_iconst (v := nI 1) hx hb dL_isRound_593 (by decide) ?_
                                        refine lv_goto (tgt := 598) hx hb dL_isRound_594 (by decide) ?_
                                        exact W.zret (ty := .boolean) hx hb hr rfl (fun t ht _ => ⟨⟨_, ((T, Bs71, pi72, kn73), Z), rfl, ⟨rfl, hIT, hC70⟩, (by show va_P D vwCl ((dd, .inl ((y 0), 36, .inl Z)) :: pm_cl y L T Bs71 pi72 kn73 Gs sv U) t.heap; rw [ht]; exact hP)⟩, hS.F ht⟩) hS.2.2 dL_isRound_598
                                    · skip
                                      refine lv_bipush (v := nI 20) hx hb dL_isRound_513 (by decide) ?_
                                      refine lv_goto (tgt := 527) hx hb dL_isRound_515 (by decide) ?_
                                      refine kx_icmp_ne (tgt := 548) hx hb (by omega) (by decide) dL_isRound_527 (by decide) (fun c257 => by exfalso; omega) (fun c257 => ?_)
                                      refine lv_aload_n hx hb dL_isRound_530 rfl (lv_at hl 1 rfl) ?_
                                      refine lv_iload hx hb dL_isRound_531 (lv_at hl 0 rfl) ?_
                                      refine lv_bipush (v := nI 6) hx hb dL_isRound_533 (by decide) ?_
                                      have hPc : va_P D vwCl (pm_cl y L T Bs71 pi72 kn73 Gs sv U) H := pq_cut hP
                                      refine vp_callSi (W.runV (As := [.int (nI 1), .int (nI 6)]) (rest := []) ⟨hx, hb, hml, hown, hts⟩ (k_X3_editor l D y L T Bs71 pi72 kn73 Gs sv U Bs Gs (nI 1) (nI 6) hIT.1) (cwV 2 hts gL_isRound_X3_editor rfl rfl rfl hd_X3_editor ⟨Nat.le_of_ble_eq_true rfl, Nat.le_of_ble_eq_true rfl⟩) ⟨pm_ro_blind, va_recv hK hPc (ci := 3) (q0 := 0) rfl rfl, pm_ro_pre hPc hK⟩ rfl rfl hl.1 rfl (lv_room (Nat.le_of_ble_eq_true rfl)) dL_isRound_535 ⟨Nat.le_of_ble_eq_true rfl, Nat.le_of_ble_eq_true rfl⟩) (fun r258 h259 => ?_)
                                      obtain rfl : r258 = nI (T 8 1) := h259.trans (pq_ed6 (by omega))
                                      refine lv_aload_n hx hb dL_isRound_538 rfl (lv_at hl 2 rfl) ?_
                                      refine lv_bipush (v := nI 33) hx hb dL_isRound_539 (by decide) ?_
                                      refine lv_iload hx hb dL_isRound_541 (lv_at hl 0 rfl) ?_
                                      refine kx_iadd hx hb dL_isRound_543 ?_
                                      refine lv_topi (fun x260 e261 => ?_)
                                      obtain rfl : x260 = nI 34 := e261.trans (rfl)
                                      refine kx_iald (v := nI (S 8 1 + pq_fn S 1 30)) hx hb hK hP 0 0 rfl rfl (by decide) (by decide) (z3 1 (by decide)) dL_isRound_544 ?_
                                      refine lv_icmp_eq (tgt := 550) hx hb dL_isRound_545 (by decide) (fun c262 => ?_) (fun c262 => by exfalso; exact c262 (by rw [t8]))
                                      refine lv_iinc (v := nI 2) (lv' := [(7, .int (nI 2)), (0, .ref (L 0 0)), (1, .ref dd), (2, .int (nI (pm_bc S 1 30))), (3, .int (nI (pm_bc S 2 30 + pm_hm S 2 30))), (4, .int (nI (pm_bc S 0 30))), (5, .int (nI (S 10 0))), (6, .int (nI (pm_bc S 1 30)))]) hx hb dL_isRound_550 hl (k := 0) rfl (by decide) (by decide) rfl (fun ls hl => ?_)
                                      refine lv_goto (tgt := 488) hx hb dL_isRound_553 (by decide) ?_
                                      refine lv_iload hx hb dL_isRound_488 (lv_at hl 0 rfl) ?_
                                      refine lv_iconst (v := nI 3) hx hb dL_isRound_490 (by decide) ?_
                                      refine lv_icmp_ge (tgt := 556) hx hb dL_isRound_491 (by decide) (fun c263 => absurd c263 (by decide)) (fun _ => ?_)
                                      obtain ⟨t5, t8⟩ := hR.2.1 2 (by decide)
                                      have t5 := pq_t5 t5
                                      have := hI.1.pts 2 (by decide)
                                      refine lv_aload_n hx hb dL_isRound_494 rfl (lv_at hl 1 rfl) ?_
                                      refine lv_iload hx hb dL_isRound_495 (lv_at hl 0 rfl) ?_
                                      refine lv_iconst (v := nI 0) hx hb dL_isRound_497 (by decide) ?_
                                      have hPc : va_P D vwCl (pm_cl y L T Bs71 pi72 kn73 Gs sv U) H := pq_cut hP
                                      refine vp_callSi (W.runV (As := [.int (nI 2), .int (nI 0)]) (rest := []) ⟨hx, hb, hml, hown, hts⟩ (k_X3_editor l D y L T Bs71 pi72 kn73 Gs sv U Bs Gs (nI 2) (nI 0) hIT.1) (cwV 2 hts gL_isRound_X3_editor rfl rfl rfl hd_X3_editor ⟨Nat.le_of_ble_eq_true rfl, Nat.le_of_ble_eq_true rfl⟩) ⟨pm_ro_blind, va_recv hK hPc (ci := 3) (q0 := 0) rfl rfl, pm_ro_pre hPc hK⟩ rfl rfl hl.1 rfl (lv_room (Nat.le_of_ble_eq_true rfl)) dL_isRound_498 ⟨Nat.le_of_ble_eq_true rfl, Nat.le_of_ble_eq_true rfl⟩) (fun r264 h265 => ?_)
                                      obtain rfl : r264 = nI (T 5 2) := h265.trans (pq_ed0 (by omega))
                                      have := hIT.1.pts 2 (by omega)
                                      refine lv_aload_n hx hb dL_isRound_501 rfl (lv_at hl 2 rfl) ?_
                                      refine lv_bipush (v := nI 30) hx hb dL_isRound_502 (by decide) ?_
                                      refine lv_iload hx hb dL_isRound_504 (lv_at hl 0 rfl) ?_
                                      refine kx_iadd hx hb dL_isRound_506 ?_
                                      refine lv_topi (fun x266 e267 => ?_)
                                      obtain rfl : x266 = nI 32 := e267.trans (rfl)
                                      refine kx_iald (v := nI (S 5 2)) hx hb hK hP 0 0 rfl rfl (by decide) (by decide) (z2 2 (by decide)) dL_isRound_507 ?_
                                      refine lv_bipush (v := nI 17) hx hb dL_isRound_508 (by decide) ?_
                                      refine kx_icmp_le (tgt := 518) hx hb (by omega) (by decide) dL_isRound_510 (by decide) (fun c268 => ?_) (fun c268 => ?_)
                                      · skip
                                        refine lv_aload_n hx hb dL_isRound_518 rfl (lv_at hl 2 rfl) ?_
                                        refine lv_bipush (v := nI 30) hx hb dL_isRound_519 (by decide) ?_
                                        refine lv_iload hx hb dL_isRound_521 (lv_at hl 0 rfl) ?_
                                        refine kx_iadd hx hb dL_isRound_523 ?_
                                        refine lv_topi (fun x269 e270 => ?_)
                                        obtain rfl : x269 = nI 32 := e270.trans (rfl)
                                        refine kx_iald (v := nI (S 5 2)) hx hb hK hP 0 0 rfl rfl (by decide) (by decide) (z2 2 (by decide)) dL_isRound_524 ?_
                                        refine lv_iconst (v := nI 2) hx hb dL_isRound_525 (by decide) ?_
                                        refine kx_iadd hx hb dL_isRound_526 ?_
                                        refine kx_icmp_ne (tgt := 548) hx hb (by omega) (by omega) dL_isRound_527 (by decide) (fun c271 => by exfalso; omega) (fun c271 => ?_)
                                        refine lv_aload_n hx hb dL_isRound_530 rfl (lv_at hl 1 rfl) ?_
                                        refine lv_iload hx hb dL_isRound_531 (lv_at hl 0 rfl) ?_
                                        refine lv_bipush (v := nI 6) hx hb dL_isRound_533 (by decide) ?_
                                        have hPc : va_P D vwCl (pm_cl y L T Bs71 pi72 kn73 Gs sv U) H := pq_cut hP
                                        refine vp_callSi (W.runV (As := [.int (nI 2), .int (nI 6)]) (rest := []) ⟨hx, hb, hml, hown, hts⟩ (k_X3_editor l D y L T Bs71 pi72 kn73 Gs sv U Bs Gs (nI 2) (nI 6) hIT.1) (cwV 2 hts gL_isRound_X3_editor rfl rfl rfl hd_X3_editor ⟨Nat.le_of_ble_eq_true rfl, Nat.le_of_ble_eq_true rfl⟩) ⟨pm_ro_blind, va_recv hK hPc (ci := 3) (q0 := 0) rfl rfl, pm_ro_pre hPc hK⟩ rfl rfl hl.1 rfl (lv_room (Nat.le_of_ble_eq_true rfl)) dL_isRound_535 ⟨Nat.le_of_ble_eq_true rfl, Nat.le_of_ble_eq_true rfl⟩) (fun r272 h273 => ?_)
                                        obtain rfl : r272 = nI (T 8 2) := h273.trans (pq_ed6 (by omega))
                                        refine lv_aload_n hx hb dL_isRound_538 rfl (lv_at hl 2 rfl) ?_
                                        refine lv_bipush (v := nI 33) hx hb dL_isRound_539 (by decide) ?_
                                        refine lv_iload hx hb dL_isRound_541 (lv_at hl 0 rfl) ?_
                                        refine kx_iadd hx hb dL_isRound_543 ?_
                                        refine lv_topi (fun x274 e275 => ?_)
                                        obtain rfl : x274 = nI 35 := e275.trans (rfl)
                                        refine kx_iald (v := nI (S 8 2 + pq_fn S 2 30)) hx hb hK hP 0 0 rfl rfl (by decide) (by decide) (z3 2 (by decide)) dL_isRound_544 ?_
                                        refine lv_icmp_eq (tgt := 550) hx hb dL_isRound_545 (by decide) (fun c276 => ?_) (fun c276 => by exfalso; exact c276 (by rw [t8]))
                                        refine lv_iinc (v := nI 3) (lv' := [(7, .int (nI 3)), (0, .ref (L 0 0)), (1, .ref dd), (2, .int (nI (pm_bc S 1 30))), (3, .int (nI (pm_bc S 2 30 + pm_hm S 2 30))), (4, .int (nI (pm_bc S 0 30))), (5, .int (nI (S 10 0))), (6, .int (nI (pm_bc S 1 30)))]) hx hb dL_isRound_550 hl (k := 0) rfl (by decide) (by decide) rfl (fun ls hl => ?_)
                                        refine lv_goto (tgt := 488) hx hb dL_isRound_553 (by decide) ?_
                                        refine lv_iload hx hb dL_isRound_488 (lv_at hl 0 rfl) ?_
                                        refine lv_iconst (v := nI 3) hx hb dL_isRound_490 (by decide) ?_
                                        refine lv_icmp_ge (tgt := 556) hx hb dL_isRound_491 (by decide) (fun _ => ?_) (fun c277 => (c277 (by decide)).elim)
                                        have hc3 := pq_c3 hR
                                        have hc1 := pq_c1 hR
                                        have h10 := hR.2.2
                                        have := hI.1.rnd
                                        refine lv_iload hx hb dL_isRound_556 (lv_at hl 7 rfl) ?_
                                        refine lv_iload_n hx hb dL_isRound_558 rfl (lv_at hl 3 rfl) ?_
                                        refine kx_icmp_ne (tgt := 597) hx hb (by omega) (by omega) dL_isRound_559 (by decide) (fun c278 => by exfalso; omega) (fun c278 => ?_)
                                        refine lv_aload_n hx hb dL_isRound_562 rfl (lv_at hl 1 rfl) ?_
                                        refine lv_iconst (v := nI 3) hx hb dL_isRound_563 (by decide) ?_
                                        have hPc : va_P D vwCl (pm_cl y L T Bs71 pi72 kn73 Gs sv U) H := pq_cut hP
                                        refine vp_callSi (W.runV (As := [.int (nI 3)]) (rest := []) ⟨hx, hb, hml, hown, hts⟩ (k_X3_count l D y L T Bs71 pi72 kn73 Gs sv U Bs Gs (nI 3) hIT.1) (cwV 1 hts gL_isRound_X3_count rfl rfl rfl hd_X3_count ⟨Nat.le_of_ble_eq_true rfl, Nat.le_of_ble_eq_true rfl⟩) ⟨pm_ron_blind, va_recv hK hPc (ci := 3) (q0 := 0) rfl rfl, pm_ron_pre hPc hK hN⟩ rfl rfl hl.1 rfl (lv_room (Nat.le_of_ble_eq_true rfl)) dL_isRound_564 ⟨Nat.le_of_ble_eq_true rfl, Nat.le_of_ble_eq_true rfl⟩) (fun r279 h280 => ?_)
                                        obtain rfl : r279 = nI (pm_hm T 2 30) := h280.trans (pq_co3)
                                        have := pq_hm_le T 2 30
                                        refine lv_iload_n hx hb dL_isRound_567 rfl (lv_at hl 4 rfl) ?_
                                        refine kx_icmp_ne (tgt := 597) hx hb (by omega) (by omega) dL_isRound_568 (by decide) (fun c281 => by exfalso; omega) (fun c281 => ?_)
                                        refine lv_aload_n hx hb dL_isRound_571 rfl (lv_at hl 1 rfl) ?_
                                        refine lv_iconst (v := nI 1) hx hb dL_isRound_572 (by decide) ?_
                                        have hPc : va_P D vwCl (pm_cl y L T Bs71 pi72 kn73 Gs sv U) H := pq_cut hP
                                        refine vp_callSi (W.runV (As := [.int (nI 1)]) (rest := []) ⟨hx, hb, hml, hown, hts⟩ (k_X3_count l D y L T Bs71 pi72 kn73 Gs sv U Bs Gs (nI 1) hIT.1) (cwV 1 hts gL_isRound_X3_count rfl rfl rfl hd_X3_count ⟨Nat.le_of_ble_eq_true rfl, Nat.le_of_ble_eq_true rfl⟩) ⟨pm_ron_blind, va_recv hK hPc (ci := 3) (q0 := 0) rfl rfl, pm_ron_pre hPc hK hN⟩ rfl rfl hl.1 rfl (lv_room (Nat.le_of_ble_eq_true rfl)) dL_isRound_573 ⟨Nat.le_of_ble_eq_true rfl, Nat.le_of_ble_eq_true rfl⟩) (fun r282 h283 => ?_)
                                        obtain rfl : r282 = nI (pm_hm T 0 30) := h283.trans (pq_co1)
                                        have := pq_hm_le T 0 30
                                        refine lv_iload hx hb dL_isRound_576 (lv_at hl 5 rfl) ?_
                                        refine kx_icmp_ne (tgt := 597) hx hb (by omega) (by omega) dL_isRound_578 (by decide) (fun c284 => by exfalso; omega) (fun c284 => ?_)
                                        refine lv_aload_n hx hb dL_isRound_581 rfl (lv_at hl 1 rfl) ?_
                                        refine lv_iconst (v := nI 0) hx hb dL_isRound_582 (by decide) ?_
                                        have hPc : va_P D vwCl (pm_cl y L T Bs71 pi72 kn73 Gs sv U) H := pq_cut hP
                                        refine vp_callSi (W.runV (As := [.int (nI 0)]) (rest := []) ⟨hx, hb, hml, hown, hts⟩ (k_X3_count l D y L T Bs71 pi72 kn73 Gs sv U Bs Gs (nI 0) hIT.1) (cwV 1 hts gL_isRound_X3_count rfl rfl rfl hd_X3_count ⟨Nat.le_of_ble_eq_true rfl, Nat.le_of_ble_eq_true rfl⟩) ⟨pm_ron_blind, va_recv hK hPc (ci := 3) (q0 := 0) rfl rfl, pm_ron_pre hPc hK hN⟩ rfl rfl hl.1 rfl (lv_room (Nat.le_of_ble_eq_true rfl)) dL_isRound_583 ⟨Nat.le_of_ble_eq_true rfl, Nat.le_of_ble_eq_true rfl⟩) (fun r285 h286 => ?_)
                                        obtain rfl : r285 = nI (T 10 0) := h286.trans (pq_co0)
                                        have := hIT.1.rnd
                                        refine lv_iload hx hb dL_isRound_586 (lv_at hl 6 rfl) ?_
                                        refine lv_iconst (v := nI 1) hx hb dL_isRound_588 (by decide) ?_
                                        refine kx_iadd hx hb dL_isRound_589 ?_
                                        refine kx_icmp_ne (tgt := 597) hx hb (by omega) (by omega) dL_isRound_590 (by decide) (fun c287 => by exfalso; omega) (fun c287 => ?_)
                                        refine lv_iconst (v := nI 1) hx hb dL_isRound_593 (by decide) ?_
                                        refine lv_goto (tgt := 598) hx hb dL_isRound_594 (by decide) ?_
                                        exact W.zret (ty := .boolean) hx hb hr rfl (fun t ht _ => ⟨⟨_, ((T, Bs71, pi72, kn73), Z), rfl, ⟨rfl, hIT, hC70⟩, (by show va_P D vwCl ((dd, .inl ((y 0), 36, .inl Z)) :: pm_cl y L T Bs71 pi72 kn73 Gs sv U) t.heap; rw [ht]; exact hP)⟩, hS.F ht⟩) hS.2.2 dL_isRound_598
                                      · skip
                                        refine lv_bipush (v := nI 20) hx hb dL_isRound_513 (by decide) ?_
                                        refine lv_goto (tgt := 527) hx hb dL_isRound_515 (by decide) ?_
                                        refine kx_icmp_ne (tgt := 548) hx hb (by omega) (by decide) dL_isRound_527 (by decide) (fun c288 => by exfalso; omega) (fun c288 => ?_)
                                        refine lv_aload_n hx hb dL_isRound_530 rfl (lv_at hl 1 rfl) ?_
                                        refine lv_iload hx hb dL_isRound_531 (lv_at hl 0 rfl) ?_
                                        refine lv_bipush (v := nI 6) hx hb dL_isRound_533 (by decide) ?_
                                        have hPc : va_P D vwCl (pm_cl y L T Bs71 pi72 kn73 Gs sv U) H := pq_cut hP
                                        refine vp_callSi (W.runV (As := [.int (nI 2), .int (nI 6)]) (rest := []) ⟨hx, hb, hml, hown, hts⟩ (k_X3_editor l D y L T Bs71 pi72 kn73 Gs sv U Bs Gs (nI 2) (nI 6) hIT.1) (cwV 2 hts gL_isRound_X3_editor rfl rfl rfl hd_X3_editor ⟨Nat.le_of_ble_eq_true rfl, Nat.le_of_ble_eq_true rfl⟩) ⟨pm_ro_blind, va_recv hK hPc (ci := 3) (q0 := 0) rfl rfl, pm_ro_pre hPc hK⟩ rfl rfl hl.1 rfl (lv_room (Nat.le_of_ble_eq_true rfl)) dL_isRound_535 ⟨Nat.le_of_ble_eq_true rfl, Nat.le_of_ble_eq_true rfl⟩) (fun r289 h290 => ?_)
                                        obtain rfl : r289 = nI (T 8 2) := h290.trans (pq_ed6 (by omega))
                                        refine lv_aload_n hx hb dL_isRound_538 rfl (lv_at hl 2 rfl) ?_
                                        refine lv_bipush (v := nI 33) hx hb dL_isRound_539 (by decide) ?_
                                        refine lv_iload hx hb dL_isRound_541 (lv_at hl 0 rfl) ?_
                                        refine kx_iadd hx hb dL_isRound_543 ?_
                                        refine lv_topi (fun x291 e292 => ?_)
                                        obtain rfl : x291 = nI 35 := e292.trans (rfl)
                                        refine kx_iald (v := nI (S 8 2 + pq_fn S 2 30)) hx hb hK hP 0 0 rfl rfl (by decide) (by decide) (z3 2 (by decide)) dL_isRound_544 ?_
                                        refine lv_icmp_eq (tgt := 550) hx hb dL_isRound_545 (by decide) (fun c293 => ?_) (fun c293 => by exfalso; exact c293 (by rw [t8]))
                                        refine lv_iinc (v := nI 3) (lv' := [(7, .int (nI 3)), (0, .ref (L 0 0)), (1, .ref dd), (2, .int (nI (pm_bc S 1 30))), (3, .int (nI (pm_bc S 2 30 + pm_hm S 2 30))), (4, .int (nI (pm_bc S 0 30))), (5, .int (nI (S 10 0))), (6, .int (nI (pm_bc S 1 30)))]) hx hb dL_isRound_550 hl (k := 0) rfl (by decide) (by decide) rfl (fun ls hl => ?_)
                                        refine lv_goto (tgt := 488) hx hb dL_isRound_553 (by decide) ?_
                                        refine lv_iload hx hb dL_isRound_488 (lv_at hl 0 rfl) ?_
                                        refine lv_iconst (v := nI 3) hx hb dL_isRound_490 (by decide) ?_
                                        refine lv_icmp_ge (tgt := 556) hx hb dL_isRound_491 (by decide) (fun _ => ?_) (fun c294 => (c294 (by decide)).elim)
                                        have hc3 := pq_c3 hR
                                        have hc1 := pq_c1 hR
                                        have h10 := hR.2.2
                                        have := hI.1.rnd
                                        refine lv_iload hx hb dL_isRound_556 (lv_at hl 7 rfl) ?_
                                        refine lv_iload_n hx hb dL_isRound_558 rfl (lv_at hl 3 rfl) ?_
                                        refine kx_icmp_ne (tgt := 597) hx hb (by omega) (by omega) dL_isRound_559 (by decide) (fun c295 => by exfalso; omega) (fun c295 => ?_)
                                        refine lv_aload_n hx hb dL_isRound_562 rfl (lv_at hl 1 rfl) ?_
                                        refine lv_iconst (v := nI 3) hx hb dL_isRound_563 (by decide) ?_
                                        have hPc : va_P D vwCl (pm_cl y L T Bs71 pi72 kn73 Gs sv U) H := pq_cut hP
                                        refine vp_callSi (W.runV (As := [.int (nI 3)]) (rest := []) ⟨hx, hb, hml, hown, hts⟩ (k_X3_count l D y L T Bs71 pi72 kn73 Gs sv U Bs Gs (nI 3) hIT.1) (cwV 1 hts gL_isRound_X3_count rfl rfl rfl hd_X3_count ⟨Nat.le_of_ble_eq_true rfl, Nat.le_of_ble_eq_true rfl⟩) ⟨pm_ron_blind, va_recv hK hPc (ci := 3) (q0 := 0) rfl rfl, pm_ron_pre hPc hK hN⟩ rfl rfl hl.1 rfl (lv_room (Nat.le_of_ble_eq_true rfl)) dL_isRound_564 ⟨Nat.le_of_ble_eq_true rfl, Nat.le_of_ble_eq_true rfl⟩) (fun r296 h297 => ?_)
                                        obtain rfl : r296 = nI (pm_hm T 2 30) := h297.trans (pq_co3)
                                        have := pq_hm_le T 2 30
                                        refine lv_iload_n hx hb dL_isRound_567 rfl (lv_at hl 4 rfl) ?_
                                        refine kx_icmp_ne (tgt := 597) hx hb (by omega) (by omega) dL_isRound_568 (by decide) (fun c298 => by exfalso; omega) (fun c298 => ?_)
                                        refine lv_aload_n hx hb dL_isRound_571 rfl (lv_at hl 1 rfl) ?_
                                        refine lv_iconst (v := nI 1) hx hb dL_isRound_572 (by decide) ?_
                                        have hPc : va_P D vwCl (pm_cl y L T Bs71 pi72 kn73 Gs sv U) H := pq_cut hP
                                        refine vp_callSi (W.runV (As := [.int (nI 1)]) (rest := []) ⟨hx, hb, hml, hown, hts⟩ (k_X3_count l D y L T Bs71 pi72 kn73 Gs sv U Bs Gs (nI 1) hIT.1) (cwV 1 hts gL_isRound_X3_count rfl rfl rfl hd_X3_count ⟨Nat.le_of_ble_eq_true rfl, Nat.le_of_ble_eq_true rfl⟩) ⟨pm_ron_blind, va_recv hK hPc (ci := 3) (q0 := 0) rfl rfl, pm_ron_pre hPc hK hN⟩ rfl rfl hl.1 rfl (lv_room (Nat.le_of_ble_eq_true rfl)) dL_isRound_573 ⟨Nat.le_of_ble_eq_true rfl, Nat.le_of_ble_eq_true rfl⟩) (fun r299 h300 => ?_)
                                        obtain rfl : r299 = nI (pm_hm T 0 30) := h300.trans (pq_co1)
                                        have := pq_hm_le T 0 30
                                        refine lv_iload hx hb dL_isRound_576 (lv_at hl 5 rfl) ?_
                                        refine kx_icmp_ne (tgt := 597) hx hb (by omega) (by omega) dL_isRound_578 (by decide) (fun c301 => by exfalso; omega) (fun c301 => ?_)
                                        refine lv_aload_n hx hb dL_isRound_581 rfl (lv_at hl 1 rfl) ?_
                                        refine lv_iconst (v := nI 0) hx hb dL_isRound_582 (by decide) ?_
                                        have hPc : va_P D vwCl (pm_cl y L T Bs71 pi72 kn73 Gs sv U) H := pq_cut hP
                                        refine vp_callSi (W.runV (As := [.int (nI 0)]) (rest := []) ⟨hx, hb, hml, hown, hts⟩ (k_X3_count l D y L T Bs71 pi72 kn73 Gs sv U Bs Gs (nI 0) hIT.1) (cwV 1 hts gL_isRound_X3_count rfl rfl rfl hd_X3_count ⟨Nat.le_of_ble_eq_true rfl, Nat.le_of_ble_eq_true rfl⟩) ⟨pm_ron_blind, va_recv hK hPc (ci := 3) (q0 := 0) rfl rfl, pm_ron_pre hPc hK hN⟩ rfl rfl hl.1 rfl (lv_room (Nat.le_of_ble_eq_true rfl)) dL_isRound_583 ⟨Nat.le_of_ble_eq_true rfl, Nat.le_of_ble_eq_true rfl⟩) (fun r302 h303 => ?_)
                                        obtain rfl : r302 = nI (T 10 0) := h303.trans (pq_co0)
                                        have := hIT.1.rnd
                                        refine lv_iload hx hb dL_isRound_586 (lv_at hl 6 rfl) ?_
                                        refine lv_iconst (v := nI 1) hx hb dL_isRound_588 (by decide) ?_
                                        refine kx_iadd hx hb dL_isRound_589 ?_
                                        refine kx_icmp_ne (tgt := 597) hx hb (by omega) (by omega) dL_isRound_590 (by decide) (fun c304 => by exfalso; omega) (fun c304 => ?_)
                                        refine lv_iconst (v := nI 1) hx hb dL_isRound_593 (by decide) ?_
                                        refine lv_goto (tgt := 598) hx hb dL_isRound_594 (by decide) ?_
                                        exact W.zret (ty := .boolean) hx hb hr rfl (fun t ht _ => ⟨⟨_, ((T, Bs71, pi72, kn73), Z), rfl, ⟨rfl, hIT, hC70⟩, (by show va_P D vwCl ((dd, .inl ((y 0), 36, .inl Z)) :: pm_cl y L T Bs71 pi72 kn73 Gs sv U) t.heap; rw [ht]; exact hP)⟩, hS.F ht⟩) hS.2.2 dL_isRound_598
                                · skip
                                  have hk : k < 30 := by omega
                                  have hz := z1 k hk
                                  have htc : pm_tc (S 4 k) < 4 := pm_pc4 _
                                  have hdl := pm_dl_le S k
                                  have hdu := hI.1.dull k hk
                                  have hrn := hI.1.rnd
                                  have hho := hI.1.how k hk
                                  have haf := pm_aft3 S k
                                  obtain ⟨a0, a4, a1, a2, a3⟩ := hR.1 k hk
                                  have t4 : pm_tk (T 4 k) = 0 := by rw [a4]; decide
                                  have c4 : pm_ck (T 4 k) = 0 := by rw [a4]; decide
                                  by_cases h0 : S 0 k = 0
                                  · rw [if_pos h0] at a0 a1
                                    by_cases hA : pm_aft S k = 1
                                    · rw [if_pos ⟨h0, hA⟩] at a2 a3
                                      have hd := pq_d_o1 h0 hA
                                      refine lv_aload_n hx hb dL_isRound_310 rfl (lv_at hl 1 rfl) ?_
                                      refine lv_iload hx hb dL_isRound_311 (lv_at hl 7 rfl) ?_
                                      refine kx_iald (v := nI (pq_d S k)) hx hb hK hP 0 0 rfl rfl (by omega) (by decide) (z1 k (by omega)) dL_isRound_313 ?_
                                      refine lv_ldc (v := nI 100000) hx hb hown (hts (.constant RL 49 (100000)) (List.mem_of_getElem? (i := 1) rfl)) dL_isRound_314 ?_
                                      refine kx_icmp_lt (tgt := 323) hx hb (by omega) (by decide) dL_isRound_316 (by decide) (fun c305 => by exfalso; omega) (fun c305 => ?_)
                                      refine lv_iconst (v := nI 1) hx hb dL_isRound_319 (by decide) ?_
                                      refine lv_goto (tgt := 324) hx hb dL_isRound_320 (by decide) ?_
                                      refine lv_istore (lv' := [(8, .int (nI 1)), (0, .ref (L 0 0)), (1, .ref dd), (2, .int (nI (pm_bc S 1 30))), (3, .int (nI (pm_bc S 2 30 + pm_hm S 2 30))), (4, .int (nI (pm_bc S 0 30))), (5, .int (nI (S 10 0))), (6, .int (nI (pm_bc S 1 30))), (7, .int (nI k))]) hx hb dL_isRound_324 hl (by decide) rfl (fun ls hl => ?_)
                                      refine lv_aload_n hx hb dL_isRound_326 rfl (lv_at hl 2 rfl) ?_
                                      refine lv_iload hx hb dL_isRound_327 (lv_at hl 8 rfl) ?_
                                      refine kx_iald (v := nI (pq_d S k)) hx hb hK hP 0 0 rfl rfl (by omega) (by decide) (z1 k (by omega)) dL_isRound_329 ?_
                                      refine lv_bipush (v := nI 10) hx hb dL_isRound_330 (by decide) ?_
                                      refine kx_irem hx hb (by omega) (by omega) (by omega) dL_isRound_332 ?_
                                      refine lv_istore (lv' := [(9, .int (nI ((pq_d S k) % 10))), (8, .int (nI 1)), (0, .ref (L 0 0)), (1, .ref dd), (2, .int (nI (pm_bc S 1 30))), (3, .int (nI (pm_bc S 2 30 + pm_hm S 2 30))), (4, .int (nI (pm_bc S 0 30))), (5, .int (nI (S 10 0))), (6, .int (nI (pm_bc S 1 30))), (7, .int (nI k))]) hx hb dL_isRound_333 hl (by decide) rfl (fun ls hl => ?_)
                                      refine lv_aload_n hx hb dL_isRound_335 rfl (lv_at hl 2 rfl) ?_
                                      refine lv_iload hx hb dL_isRound_336 (lv_at hl 9 rfl) ?_
                                      refine lv_iconst (v := nI 0) hx hb dL_isRound_338 (by decide) ?_
                                      have hPc : va_P D vwCl (pm_cl y L T Bs71 pi72 kn73 Gs sv U) H := pq_cut hP
                                      refine vp_callSi (W.runV (As := [.int (nI k), .int (nI 0)]) (rest := []) ⟨hx, hb, hml, hown, hts⟩ (k_X3_of l D y L T Bs71 pi72 kn73 Gs sv U Bs Gs (nI k) (nI 0) hIT.1) (cwV 2 hts gL_isRound_X3_of rfl rfl rfl hd_X3_of ⟨Nat.le_of_ble_eq_true rfl, Nat.le_of_ble_eq_true rfl⟩) ⟨pm_ro_blind, va_recv hK hPc (ci := 3) (q0 := 0) rfl rfl, pm_ro_pre hPc hK⟩ rfl rfl hl.1 rfl (lv_room (Nat.le_of_ble_eq_true rfl)) dL_isRound_339 ⟨Nat.le_of_ble_eq_true rfl, Nat.le_of_ble_eq_true rfl⟩) (fun r306 h307 => ?_)
                                      obtain rfl : r306 = nI (T 0 k) := h307.trans (pq_of0 (by omega))
                                      have := hIT.1.how k (by omega)
                                      refine lv_istore (lv' := [(10, .int (nI (T 0 k))), (9, .int (nI ((pq_d S k) % 10))), (8, .int (nI 1)), (0, .ref (L 0 0)), (1, .ref dd), (2, .int (nI (pm_bc S 1 30))), (3, .int (nI (pm_bc S 2 30 + pm_hm S 2 30))), (4, .int (nI (pm_bc S 0 30))), (5, .int (nI (S 10 0))), (6, .int (nI (pm_bc S 1 30))), (7, .int (nI k))]) hx hb dL_isRound_342 hl (by decide) rfl (fun ls hl => ?_)
                                      refine lv_iload hx hb dL_isRound_344 (lv_at hl 2 rfl) ?_
                                      refine lv_if_eq (tgt := 420) hx hb dL_isRound_346 (by decide) (fun c308 => absurd c308 (by decide)) (fun _ => ?_)
                                      refine lv_iload hx hb dL_isRound_349 (lv_at hl 1 rfl) ?_
                                      refine lv_iconst (v := nI 1) hx hb dL_isRound_351 (by decide) ?_
                                      refine kx_icmp_ne (tgt := 401) hx hb (by omega) (by decide) dL_isRound_352 (by decide) (fun c309 => by exfalso; omega) (fun c309 => ?_)
                                      refine lv_iload hx hb dL_isRound_355 (lv_at hl 0 rfl) ?_
                                      refine lv_iconst (v := nI 1) hx hb dL_isRound_357 (by decide) ?_
                                      refine kx_icmp_ne (tgt := 397) hx hb (by omega) (by decide) dL_isRound_358 (by decide) (fun c310 => by exfalso; omega) (fun c310 => ?_)
                                      refine lv_aload_n hx hb dL_isRound_361 rfl (lv_at hl 3 rfl) ?_
                                      refine lv_iload hx hb dL_isRound_362 (lv_at hl 10 rfl) ?_
                                      refine lv_iconst (v := nI 4) hx hb dL_isRound_364 (by decide) ?_
                                      have hPc : va_P D vwCl (pm_cl y L T Bs71 pi72 kn73 Gs sv U) H := pq_cut hP
                                      refine vp_callSi (W.runV (As := [.int (nI k), .int (nI 4)]) (rest := []) ⟨hx, hb, hml, hown, hts⟩ (k_X3_of l D y L T Bs71 pi72 kn73 Gs sv U Bs Gs (nI k) (nI 4) hIT.1) (cwV 2 hts gL_isRound_X3_of rfl rfl rfl hd_X3_of ⟨Nat.le_of_ble_eq_true rfl, Nat.le_of_ble_eq_true rfl⟩) ⟨pm_ro_blind, va_recv hK hPc (ci := 3) (q0 := 0) rfl rfl, pm_ro_pre hPc hK⟩ rfl rfl hl.1 rfl (lv_room (Nat.le_of_ble_eq_true rfl)) dL_isRound_365 ⟨Nat.le_of_ble_eq_true rfl, Nat.le_of_ble_eq_true rfl⟩) (fun r311 h312 => ?_)
                                      obtain rfl : r311 = nI (T 2 k) := h312.trans (pq_of4 (by omega))
                                      have := hIT.1.size k (by omega)
                                      refine lv_aload_n hx hb dL_isRound_368 rfl (lv_at hl 4 rfl) ?_
                                      refine lv_iload hx hb dL_isRound_369 (lv_at hl 10 rfl) ?_
                                      refine kx_iald (v := nI (pq_d S k)) hx hb hK hP 0 0 rfl rfl (by omega) (by decide) (z1 k (by omega)) dL_isRound_371 ?_
                                      refine lv_bipush (v := nI 10) hx hb dL_isRound_372 (by decide) ?_
                                      refine kx_idiv hx hb (by omega) (by omega) (by omega) dL_isRound_374 ?_
                                      refine lv_bipush (v := nI 10) hx hb dL_isRound_375 (by decide) ?_
                                      refine kx_irem hx hb (by omega) (by omega) (by omega) dL_isRound_377 ?_
                                      refine kx_icmp_ne (tgt := 397) hx hb (by omega) (by omega) dL_isRound_378 (by decide) (fun c313 => by exfalso; omega) (fun c313 => ?_)
                                      refine lv_aload_n hx hb dL_isRound_381 rfl (lv_at hl 3 rfl) ?_
                                      refine lv_iload hx hb dL_isRound_382 (lv_at hl 10 rfl) ?_
                                      refine lv_iconst (v := nI 5) hx hb dL_isRound_384 (by decide) ?_
                                      have hPc : va_P D vwCl (pm_cl y L T Bs71 pi72 kn73 Gs sv U) H := pq_cut hP
                                      refine vp_callSi (W.runV (As := [.int (nI k), .int (nI 5)]) (rest := []) ⟨hx, hb, hml, hown, hts⟩ (k_X3_of l D y L T Bs71 pi72 kn73 Gs sv U Bs Gs (nI k) (nI 5) hIT.1) (cwV 2 hts gL_isRound_X3_of rfl rfl rfl hd_X3_of ⟨Nat.le_of_ble_eq_true rfl, Nat.le_of_ble_eq_true rfl⟩) ⟨pm_ro_blind, va_recv hK hPc (ci := 3) (q0 := 0) rfl rfl, pm_ro_pre hPc hK⟩ rfl rfl hl.1 rfl (lv_room (Nat.le_of_ble_eq_true rfl)) dL_isRound_385 ⟨Nat.le_of_ble_eq_true rfl, Nat.le_of_ble_eq_true rfl⟩) (fun r314 h315 => ?_)
                                      obtain rfl : r314 = pm_ci (T 3 k) := h315.trans (pq_of5 (by omega))
                                      have := hIT.1.chi k (by omega)
                                      have := hIT.1.rnd
                                      refine lv_topi (fun x316 e317 => ?_)
                                      obtain rfl : x316 = nI (S 10 0) := e317.trans ((by rw [a3]; exact pm_ci_p (x := S 10 0 + 1) (by omega)))
                                      refine lv_iload hx hb dL_isRound_388 (lv_at hl 8 rfl) ?_
                                      refine kx_icmp_ne (tgt := 397) hx hb (by omega) (by omega) dL_isRound_390 (by decide) (fun c318 => by exfalso; omega) (fun c318 => ?_)
                                      refine lv_iconst (v := nI 1) hx hb dL_isRound_393 (by decide) ?_
                                      refine lv_goto (tgt := 432) hx hb dL_isRound_394 (by decide) ?_
                                      refine lv_istore (lv' := [(11, .int (nI 1)), (10, .int (nI (T 0 k))), (9, .int (nI ((pq_d S k) % 10))), (8, .int (nI 1)), (0, .ref (L 0 0)), (1, .ref dd), (2, .int (nI (pm_bc S 1 30))), (3, .int (nI (pm_bc S 2 30 + pm_hm S 2 30))), (4, .int (nI (pm_bc S 0 30))), (5, .int (nI (S 10 0))), (6, .int (nI (pm_bc S 1 30))), (7, .int (nI k))]) hx hb dL_isRound_432 hl (by decide) rfl (fun ls hl => ?_)
                                      refine lv_iload hx hb dL_isRound_434 (lv_at hl 0 rfl) ?_
                                      refine lv_if_eq (tgt := 477) hx hb dL_isRound_436 (by decide) (fun c319 => absurd c319 (by decide)) (fun _ => ?_)
                                      refine lv_aload_n hx hb dL_isRound_439 rfl (lv_at hl 4 rfl) ?_
                                      refine lv_iload hx hb dL_isRound_440 (lv_at hl 11 rfl) ?_
                                      refine lv_iconst (v := nI 1) hx hb dL_isRound_442 (by decide) ?_
                                      have hPc : va_P D vwCl (pm_cl y L T Bs71 pi72 kn73 Gs sv U) H := pq_cut hP
                                      refine vp_callSi (W.runV (As := [.int (nI k), .int (nI 1)]) (rest := []) ⟨hx, hb, hml, hown, hts⟩ (k_X3_of l D y L T Bs71 pi72 kn73 Gs sv U Bs Gs (nI k) (nI 1) hIT.1) (cwV 2 hts gL_isRound_X3_of rfl rfl rfl hd_X3_of ⟨Nat.le_of_ble_eq_true rfl, Nat.le_of_ble_eq_true rfl⟩) ⟨pm_ro_blind, va_recv hK hPc (ci := 3) (q0 := 0) rfl rfl, pm_ro_pre hPc hK⟩ rfl rfl hl.1 rfl (lv_room (Nat.le_of_ble_eq_true rfl)) dL_isRound_443 ⟨Nat.le_of_ble_eq_true rfl, Nat.le_of_ble_eq_true rfl⟩) (fun r320 h321 => ?_)
                                      obtain rfl : r320 = nI (pm_tk (T 4 k)) := h321.trans (pq_of1 (by omega))
                                      have := pm_tk8 (T 4 k)
                                      refine lv_aload_n hx hb dL_isRound_446 rfl (lv_at hl 4 rfl) ?_
                                      refine lv_iload hx hb dL_isRound_447 (lv_at hl 11 rfl) ?_
                                      refine lv_iconst (v := nI 2) hx hb dL_isRound_449 (by decide) ?_
                                      have hPc : va_P D vwCl (pm_cl y L T Bs71 pi72 kn73 Gs sv U) H := pq_cut hP
                                      refine vp_callSi (W.runV (As := [.int (nI k), .int (nI 2)]) (rest := [.int (nI (pm_tk (T 4 k)))]) ⟨hx, hb, hml, hown, hts⟩ (k_X3_of l D y L T Bs71 pi72 kn73 Gs sv U Bs Gs (nI k) (nI 2) hIT.1) (cwV 2 hts gL_isRound_X3_of rfl rfl rfl hd_X3_of ⟨Nat.le_of_ble_eq_true rfl, Nat.le_of_ble_eq_true rfl⟩) ⟨pm_ro_blind, va_recv hK hPc (ci := 3) (q0 := 0) rfl rfl, pm_ro_pre hPc hK⟩ rfl rfl hl.1 rfl (lv_room (Nat.le_of_ble_eq_true rfl)) dL_isRound_450 ⟨Nat.le_of_ble_eq_true rfl, Nat.le_of_ble_eq_true rfl⟩) (fun r322 h323 => ?_)
                                      obtain rfl : r322 = nI (pm_ck (T 4 k)) := h323.trans (pq_of2 (by omega))
                                      have := pm_ck8 (T 4 k)
                                      refine kx_iadd hx hb dL_isRound_453 ?_
                                      refine kx_if_ne (tgt := 477) hx hb (by omega) dL_isRound_454 (by decide) (fun c324 => by exfalso; omega) (fun c324 => ?_)
                                      refine lv_aload_n hx hb dL_isRound_457 rfl (lv_at hl 4 rfl) ?_
                                      refine lv_iload hx hb dL_isRound_458 (lv_at hl 11 rfl) ?_
                                      refine lv_iconst (v := nI 3) hx hb dL_isRound_460 (by decide) ?_
                                      have hPc : va_P D vwCl (pm_cl y L T Bs71 pi72 kn73 Gs sv U) H := pq_cut hP
                                      refine vp_callSi (W.runV (As := [.int (nI k), .int (nI 3)]) (rest := []) ⟨hx, hb, hml, hown, hts⟩ (k_X3_of l D y L T Bs71 pi72 kn73 Gs sv U Bs Gs (nI k) (nI 3) hIT.1) (cwV 2 hts gL_isRound_X3_of rfl rfl rfl hd_X3_of ⟨Nat.le_of_ble_eq_true rfl, Nat.le_of_ble_eq_true rfl⟩) ⟨pm_ro_blind, va_recv hK hPc (ci := 3) (q0 := 0) rfl rfl, pm_ro_pre hPc hK⟩ rfl rfl hl.1 rfl (lv_room (Nat.le_of_ble_eq_true rfl)) dL_isRound_461 ⟨Nat.le_of_ble_eq_true rfl, Nat.le_of_ble_eq_true rfl⟩) (fun r325 h326 => ?_)
                                      obtain rfl : r325 = nI (T 1 k) := h326.trans (pq_of3 (by omega))
                                      have := hIT.1.dull k (by omega)
                                      have := hIT.1.rnd
                                      refine lv_aload_n hx hb dL_isRound_464 rfl (lv_at hl 5 rfl) ?_
                                      refine lv_iload hx hb dL_isRound_465 (lv_at hl 11 rfl) ?_
                                      refine kx_iald (v := nI (pq_d S k)) hx hb hK hP 0 0 rfl rfl (by omega) (by decide) (z1 k (by omega)) dL_isRound_467 ?_
                                      refine lv_ldc (v := nI 100000) hx hb hown (hts (.constant RL 49 (100000)) (List.mem_of_getElem? (i := 1) rfl)) dL_isRound_468 ?_
                                      refine kx_irem hx hb (by omega) (by omega) (by omega) dL_isRound_470 ?_
                                      refine lv_bipush (v := nI 100) hx hb dL_isRound_471 (by decide) ?_
                                      refine kx_idiv hx hb (by omega) (by omega) (by omega) dL_isRound_473 ?_
                                      refine kx_icmp_eq (tgt := 479) hx hb (by omega) (by omega) dL_isRound_474 (by decide) (fun c327 => ?_) (fun c327 => by exfalso; omega)
                                      refine kx_iinc (a := k) (lv' := [(7, .int (nI (k + 1))), (11, .int (nI 1)), (10, .int (nI (T 0 k))), (9, .int (nI ((pq_d S k) % 10))), (8, .int (nI 1)), (0, .ref (L 0 0)), (1, .ref dd), (2, .int (nI (pm_bc S 1 30))), (3, .int (nI (pm_bc S 2 30 + pm_hm S 2 30))), (4, .int (nI (pm_bc S 0 30))), (5, .int (nI (S 10 0))), (6, .int (nI (pm_bc S 1 30)))]) hx hb dL_isRound_479 hl (k := 11) rfl (by decide) rfl (fun ls hl => ?_)
                                      refine lv_goto (tgt := 303) hx hb dL_isRound_482 (by decide) ?_
                                      exact ih75 (k + 1) ls (by omega) (by omega) (by exact lv_sub hl [5, 6, 7, 8, 9, 10, 11, 0] rfl) 
                                    · have hd := pq_d_o0 h0 hA
                                      refine lv_aload_n hx hb dL_isRound_310 rfl (lv_at hl 1 rfl) ?_
                                      refine lv_iload hx hb dL_isRound_311 (lv_at hl 7 rfl) ?_
                                      refine kx_iald (v := nI (pq_d S k)) hx hb hK hP 0 0 rfl rfl (by omega) (by decide) (z1 k (by omega)) dL_isRound_313 ?_
                                      refine lv_ldc (v := nI 100000) hx hb hown (hts (.constant RL 49 (100000)) (List.mem_of_getElem? (i := 1) rfl)) dL_isRound_314 ?_
                                      refine kx_icmp_lt (tgt := 323) hx hb (by omega) (by decide) dL_isRound_316 (by decide) (fun c328 => by exfalso; omega) (fun c328 => ?_)
                                      refine lv_iconst (v := nI 1) hx hb dL_isRound_319 (by decide) ?_
                                      refine lv_goto (tgt := 324) hx hb dL_isRound_320 (by decide) ?_
                                      refine lv_istore (lv' := [(8, .int (nI 1)), (0, .ref (L 0 0)), (1, .ref dd), (2, .int (nI (pm_bc S 1 30))), (3, .int (nI (pm_bc S 2 30 + pm_hm S 2 30))), (4, .int (nI (pm_bc S 0 30))), (5, .int (nI (S 10 0))), (6, .int (nI (pm_bc S 1 30))), (7, .int (nI k))]) hx hb dL_isRound_324 hl (by decide) rfl (fun ls hl => ?_)
                                      refine lv_aload_n hx hb dL_isRound_326 rfl (lv_at hl 2 rfl) ?_
                                      refine lv_iload hx hb dL_isRound_327 (lv_at hl 8 rfl) ?_
                                      refine kx_iald (v := nI (pq_d S k)) hx hb hK hP 0 0 rfl rfl (by omega) (by decide) (z1 k (by omega)) dL_isRound_329 ?_
                                      refine lv_bipush (v := nI 10) hx hb dL_isRound_330 (by decide) ?_
                                      refine kx_irem hx hb (by omega) (by omega) (by omega) dL_isRound_332 ?_
                                      refine lv_istore (lv' := [(9, .int (nI ((pq_d S k) % 10))), (8, .int (nI 1)), (0, .ref (L 0 0)), (1, .ref dd), (2, .int (nI (pm_bc S 1 30))), (3, .int (nI (pm_bc S 2 30 + pm_hm S 2 30))), (4, .int (nI (pm_bc S 0 30))), (5, .int (nI (S 10 0))), (6, .int (nI (pm_bc S 1 30))), (7, .int (nI k))]) hx hb dL_isRound_333 hl (by decide) rfl (fun ls hl => ?_)
                                      refine lv_aload_n hx hb dL_isRound_335 rfl (lv_at hl 2 rfl) ?_
                                      refine lv_iload hx hb dL_isRound_336 (lv_at hl 9 rfl) ?_
                                      refine lv_iconst (v := nI 0) hx hb dL_isRound_338 (by decide) ?_
                                      have hPc : va_P D vwCl (pm_cl y L T Bs71 pi72 kn73 Gs sv U) H := pq_cut hP
                                      refine vp_callSi (W.runV (As := [.int (nI k), .int (nI 0)]) (rest := []) ⟨hx, hb, hml, hown, hts⟩ (k_X3_of l D y L T Bs71 pi72 kn73 Gs sv U Bs Gs (nI k) (nI 0) hIT.1) (cwV 2 hts gL_isRound_X3_of rfl rfl rfl hd_X3_of ⟨Nat.le_of_ble_eq_true rfl, Nat.le_of_ble_eq_true rfl⟩) ⟨pm_ro_blind, va_recv hK hPc (ci := 3) (q0 := 0) rfl rfl, pm_ro_pre hPc hK⟩ rfl rfl hl.1 rfl (lv_room (Nat.le_of_ble_eq_true rfl)) dL_isRound_339 ⟨Nat.le_of_ble_eq_true rfl, Nat.le_of_ble_eq_true rfl⟩) (fun r329 h330 => ?_)
                                      obtain rfl : r329 = nI (T 0 k) := h330.trans (pq_of0 (by omega))
                                      have := hIT.1.how k (by omega)
                                      refine lv_istore (lv' := [(10, .int (nI (T 0 k))), (9, .int (nI ((pq_d S k) % 10))), (8, .int (nI 1)), (0, .ref (L 0 0)), (1, .ref dd), (2, .int (nI (pm_bc S 1 30))), (3, .int (nI (pm_bc S 2 30 + pm_hm S 2 30))), (4, .int (nI (pm_bc S 0 30))), (5, .int (nI (S 10 0))), (6, .int (nI (pm_bc S 1 30))), (7, .int (nI k))]) hx hb dL_isRound_342 hl (by decide) rfl (fun ls hl => ?_)
                                      refine lv_iload hx hb dL_isRound_344 (lv_at hl 2 rfl) ?_
                                      refine lv_if_eq (tgt := 420) hx hb dL_isRound_346 (by decide) (fun c331 => absurd c331 (by decide)) (fun _ => ?_)
                                      refine lv_iload hx hb dL_isRound_349 (lv_at hl 1 rfl) ?_
                                      refine lv_iconst (v := nI 1) hx hb dL_isRound_351 (by decide) ?_
                                      refine kx_icmp_ne (tgt := 401) hx hb (by omega) (by decide) dL_isRound_352 (by decide) (fun c332 => ?_) (fun c332 => by exfalso; omega)
                                      refine lv_iload hx hb dL_isRound_401 (lv_at hl 0 rfl) ?_
                                      refine kx_if_eq (tgt := 412) hx hb (by omega) dL_isRound_403 (by decide) (fun c333 => ?_) (fun c333 => ?_)
                                      · skip
                                        refine lv_iconst (v := nI 1) hx hb dL_isRound_412 (by decide) ?_
                                        refine lv_goto (tgt := 432) hx hb dL_isRound_413 (by decide) ?_
                                        refine lv_istore (lv' := [(11, .int (nI 1)), (10, .int (nI (T 0 k))), (9, .int (nI ((pq_d S k) % 10))), (8, .int (nI 1)), (0, .ref (L 0 0)), (1, .ref dd), (2, .int (nI (pm_bc S 1 30))), (3, .int (nI (pm_bc S 2 30 + pm_hm S 2 30))), (4, .int (nI (pm_bc S 0 30))), (5, .int (nI (S 10 0))), (6, .int (nI (pm_bc S 1 30))), (7, .int (nI k))]) hx hb dL_isRound_432 hl (by decide) rfl (fun ls hl => ?_)
                                        refine lv_iload hx hb dL_isRound_434 (lv_at hl 0 rfl) ?_
                                        refine lv_if_eq (tgt := 477) hx hb dL_isRound_436 (by decide) (fun c334 => absurd c334 (by decide)) (fun _ => ?_)
                                        refine lv_aload_n hx hb dL_isRound_439 rfl (lv_at hl 4 rfl) ?_
                                        refine lv_iload hx hb dL_isRound_440 (lv_at hl 11 rfl) ?_
                                        refine lv_iconst (v := nI 1) hx hb dL_isRound_442 (by decide) ?_
                                        have hPc : va_P D vwCl (pm_cl y L T Bs71 pi72 kn73 Gs sv U) H := pq_cut hP
                                        refine vp_callSi (W.runV (As := [.int (nI k), .int (nI 1)]) (rest := []) ⟨hx, hb, hml, hown, hts⟩ (k_X3_of l D y L T Bs71 pi72 kn73 Gs sv U Bs Gs (nI k) (nI 1) hIT.1) (cwV 2 hts gL_isRound_X3_of rfl rfl rfl hd_X3_of ⟨Nat.le_of_ble_eq_true rfl, Nat.le_of_ble_eq_true rfl⟩) ⟨pm_ro_blind, va_recv hK hPc (ci := 3) (q0 := 0) rfl rfl, pm_ro_pre hPc hK⟩ rfl rfl hl.1 rfl (lv_room (Nat.le_of_ble_eq_true rfl)) dL_isRound_443 ⟨Nat.le_of_ble_eq_true rfl, Nat.le_of_ble_eq_true rfl⟩) (fun r335 h336 => ?_)
                                        obtain rfl : r335 = nI (pm_tk (T 4 k)) := h336.trans (pq_of1 (by omega))
                                        have := pm_tk8 (T 4 k)
                                        refine lv_aload_n hx hb dL_isRound_446 rfl (lv_at hl 4 rfl) ?_
                                        refine lv_iload hx hb dL_isRound_447 (lv_at hl 11 rfl) ?_
                                        refine lv_iconst (v := nI 2) hx hb dL_isRound_449 (by decide) ?_
                                        have hPc : va_P D vwCl (pm_cl y L T Bs71 pi72 kn73 Gs sv U) H := pq_cut hP
                                        refine vp_callSi (W.runV (As := [.int (nI k), .int (nI 2)]) (rest := [.int (nI (pm_tk (T 4 k)))]) ⟨hx, hb, hml, hown, hts⟩ (k_X3_of l D y L T Bs71 pi72 kn73 Gs sv U Bs Gs (nI k) (nI 2) hIT.1) (cwV 2 hts gL_isRound_X3_of rfl rfl rfl hd_X3_of ⟨Nat.le_of_ble_eq_true rfl, Nat.le_of_ble_eq_true rfl⟩) ⟨pm_ro_blind, va_recv hK hPc (ci := 3) (q0 := 0) rfl rfl, pm_ro_pre hPc hK⟩ rfl rfl hl.1 rfl (lv_room (Nat.le_of_ble_eq_true rfl)) dL_isRound_450 ⟨Nat.le_of_ble_eq_true rfl, Nat.le_of_ble_eq_true rfl⟩) (fun r337 h338 => ?_)
                                        obtain rfl : r337 = nI (pm_ck (T 4 k)) := h338.trans (pq_of2 (by omega))
                                        have := pm_ck8 (T 4 k)
                                        refine kx_iadd hx hb dL_isRound_453 ?_
                                        refine kx_if_ne (tgt := 477) hx hb (by omega) dL_isRound_454 (by decide) (fun c339 => by exfalso; omega) (fun c339 => ?_)
                                        refine lv_aload_n hx hb dL_isRound_457 rfl (lv_at hl 4 rfl) ?_
                                        refine lv_iload hx hb dL_isRound_458 (lv_at hl 11 rfl) ?_
                                        refine lv_iconst (v := nI 3) hx hb dL_isRound_460 (by decide) ?_
                                        have hPc : va_P D vwCl (pm_cl y L T Bs71 pi72 kn73 Gs sv U) H := pq_cut hP
                                        refine vp_callSi (W.runV (As := [.int (nI k), .int (nI 3)]) (rest := []) ⟨hx, hb, hml, hown, hts⟩ (k_X3_of l D y L T Bs71 pi72 kn73 Gs sv U Bs Gs (nI k) (nI 3) hIT.1) (cwV 2 hts gL_isRound_X3_of rfl rfl rfl hd_X3_of ⟨Nat.le_of_ble_eq_true rfl, Nat.le_of_ble_eq_true rfl⟩) ⟨pm_ro_blind, va_recv hK hPc (ci := 3) (q0 := 0) rfl rfl, pm_ro_pre hPc hK⟩ rfl rfl hl.1 rfl (lv_room (Nat.le_of_ble_eq_true rfl)) dL_isRound_461 ⟨Nat.le_of_ble_eq_true rfl, Nat.le_of_ble_eq_true rfl⟩) (fun r340 h341 => ?_)
                                        obtain rfl : r340 = nI (T 1 k) := h341.trans (pq_of3 (by omega))
                                        have := hIT.1.dull k (by omega)
                                        have := hIT.1.rnd
                                        refine lv_aload_n hx hb dL_isRound_464 rfl (lv_at hl 5 rfl) ?_
                                        refine lv_iload hx hb dL_isRound_465 (lv_at hl 11 rfl) ?_
                                        refine kx_iald (v := nI (pq_d S k)) hx hb hK hP 0 0 rfl rfl (by omega) (by decide) (z1 k (by omega)) dL_isRound_467 ?_
                                        refine lv_ldc (v := nI 100000) hx hb hown (hts (.constant RL 49 (100000)) (List.mem_of_getElem? (i := 1) rfl)) dL_isRound_468 ?_
                                        refine kx_irem hx hb (by omega) (by omega) (by omega) dL_isRound_470 ?_
                                        refine lv_bipush (v := nI 100) hx hb dL_isRound_471 (by decide) ?_
                                        refine kx_idiv hx hb (by omega) (by omega) (by omega) dL_isRound_473 ?_
                                        refine kx_icmp_eq (tgt := 479) hx hb (by omega) (by omega) dL_isRound_474 (by decide) (fun c342 => ?_) (fun c342 => by exfalso; omega)
                                        refine kx_iinc (a := k) (lv' := [(7, .int (nI (k + 1))), (11, .int (nI 1)), (10, .int (nI (T 0 k))), (9, .int (nI ((pq_d S k) % 10))), (8, .int (nI 1)), (0, .ref (L 0 0)), (1, .ref dd), (2, .int (nI (pm_bc S 1 30))), (3, .int (nI (pm_bc S 2 30 + pm_hm S 2 30))), (4, .int (nI (pm_bc S 0 30))), (5, .int (nI (S 10 0))), (6, .int (nI (pm_bc S 1 30)))]) hx hb dL_isRound_479 hl (k := 11) rfl (by decide) rfl (fun ls hl => ?_)
                                        refine lv_goto (tgt := 303) hx hb dL_isRound_482 (by decide) ?_
                                        exact ih75 (k + 1) ls (by omega) (by omega) (by exact lv_sub hl [5, 6, 7, 8, 9, 10, 11, 0] rfl) 
                                      · skip
                                        refine lv_iload hx hb dL_isRound_406 (lv_at hl 0 rfl) ?_
                                        refine lv_iconst (v := nI 2) hx hb dL_isRound_408 (by decide) ?_
                                        refine kx_icmp_ne (tgt := 416) hx hb (by omega) (by decide) dL_isRound_409 (by decide) (fun c343 => by exfalso; omega) (fun c343 => ?_)
                                        refine lv_iconst (v := nI 1) hx hb dL_isRound_412 (by decide) ?_
                                        refine lv_goto (tgt := 432) hx hb dL_isRound_413 (by decide) ?_
                                        refine lv_istore (lv' := [(11, .int (nI 1)), (10, .int (nI (T 0 k))), (9, .int (nI ((pq_d S k) % 10))), (8, .int (nI 1)), (0, .ref (L 0 0)), (1, .ref dd), (2, .int (nI (pm_bc S 1 30))), (3, .int (nI (pm_bc S 2 30 + pm_hm S 2 30))), (4, .int (nI (pm_bc S 0 30))), (5, .int (nI (S 10 0))), (6, .int (nI (pm_bc S 1 30))), (7, .int (nI k))]) hx hb dL_isRound_432 hl (by decide) rfl (fun ls hl => ?_)
                                        refine lv_iload hx hb dL_isRound_434 (lv_at hl 0 rfl) ?_
                                        refine lv_if_eq (tgt := 477) hx hb dL_isRound_436 (by decide) (fun c344 => absurd c344 (by decide)) (fun _ => ?_)
                                        refine lv_aload_n hx hb dL_isRound_439 rfl (lv_at hl 4 rfl) ?_
                                        refine lv_iload hx hb dL_isRound_440 (lv_at hl 11 rfl) ?_
                                        refine lv_iconst (v := nI 1) hx hb dL_isRound_442 (by decide) ?_
                                        have hPc : va_P D vwCl (pm_cl y L T Bs71 pi72 kn73 Gs sv U) H := pq_cut hP
                                        refine vp_callSi (W.runV (As := [.int (nI k), .int (nI 1)]) (rest := []) ⟨hx, hb, hml, hown, hts⟩ (k_X3_of l D y L T Bs71 pi72 kn73 Gs sv U Bs Gs (nI k) (nI 1) hIT.1) (cwV 2 hts gL_isRound_X3_of rfl rfl rfl hd_X3_of ⟨Nat.le_of_ble_eq_true rfl, Nat.le_of_ble_eq_true rfl⟩) ⟨pm_ro_blind, va_recv hK hPc (ci := 3) (q0 := 0) rfl rfl, pm_ro_pre hPc hK⟩ rfl rfl hl.1 rfl (lv_room (Nat.le_of_ble_eq_true rfl)) dL_isRound_443 ⟨Nat.le_of_ble_eq_true rfl, Nat.le_of_ble_eq_true rfl⟩) (fun r345 h346 => ?_)
                                        obtain rfl : r345 = nI (pm_tk (T 4 k)) := h346.trans (pq_of1 (by omega))
                                        have := pm_tk8 (T 4 k)
                                        refine lv_aload_n hx hb dL_isRound_446 rfl (lv_at hl 4 rfl) ?_
                                        refine lv_iload hx hb dL_isRound_447 (lv_at hl 11 rfl) ?_
                                        refine lv_iconst (v := nI 2) hx hb dL_isRound_449 (by decide) ?_
                                        have hPc : va_P D vwCl (pm_cl y L T Bs71 pi72 kn73 Gs sv U) H := pq_cut hP
                                        refine vp_callSi (W.runV (As := [.int (nI k), .int (nI 2)]) (rest := [.int (nI (pm_tk (T 4 k)))]) ⟨hx, hb, hml, hown, hts⟩ (k_X3_of l D y L T Bs71 pi72 kn73 Gs sv U Bs Gs (nI k) (nI 2) hIT.1) (cwV 2 hts gL_isRound_X3_of rfl rfl rfl hd_X3_of ⟨Nat.le_of_ble_eq_true rfl, Nat.le_of_ble_eq_true rfl⟩) ⟨pm_ro_blind, va_recv hK hPc (ci := 3) (q0 := 0) rfl rfl, pm_ro_pre hPc hK⟩ rfl rfl hl.1 rfl (lv_room (Nat.le_of_ble_eq_true rfl)) dL_isRound_450 ⟨Nat.le_of_ble_eq_true rfl, Nat.le_of_ble_eq_true rfl⟩) (fun r347 h348 => ?_)
                                        obtain rfl : r347 = nI (pm_ck (T 4 k)) := h348.trans (pq_of2 (by omega))
                                        have := pm_ck8 (T 4 k)
                                        refine kx_iadd hx hb dL_isRound_453 ?_
                                        refine kx_if_ne (tgt := 477) hx hb (by omega) dL_isRound_454 (by decide) (fun c349 => by exfalso; omega) (fun c349 => ?_)
                                        refine lv_aload_n hx hb dL_isRound_457 rfl (lv_at hl 4 rfl) ?_
                                        refine lv_iload hx hb dL_isRound_458 (lv_at hl 11 rfl) ?_
                                        refine lv_iconst (v := nI 3) hx hb dL_isRound_460 (by decide) ?_
                                        have hPc : va_P D vwCl (pm_cl y L T Bs71 pi72 kn73 Gs sv U) H := pq_cut hP
                                        refine vp_callSi (W.runV (As := [.int (nI k), .int (nI 3)]) (rest := []) ⟨hx, hb, hml, hown, hts⟩ (k_X3_of l D y L T Bs71 pi72 kn73 Gs sv U Bs Gs (nI k) (nI 3) hIT.1) (cwV 2 hts gL_isRound_X3_of rfl rfl rfl hd_X3_of ⟨Nat.le_of_ble_eq_true rfl, Nat.le_of_ble_eq_true rfl⟩) ⟨pm_ro_blind, va_recv hK hPc (ci := 3) (q0 := 0) rfl rfl, pm_ro_pre hPc hK⟩ rfl rfl hl.1 rfl (lv_room (Nat.le_of_ble_eq_true rfl)) dL_isRound_461 ⟨Nat.le_of_ble_eq_true rfl, Nat.le_of_ble_eq_true rfl⟩) (fun r350 h351 => ?_)
                                        obtain rfl : r350 = nI (T 1 k) := h351.trans (pq_of3 (by omega))
                                        have := hIT.1.dull k (by omega)
                                        have := hIT.1.rnd
                                        refine lv_aload_n hx hb dL_isRound_464 rfl (lv_at hl 5 rfl) ?_
                                        refine lv_iload hx hb dL_isRound_465 (lv_at hl 11 rfl) ?_
                                        refine kx_iald (v := nI (pq_d S k)) hx hb hK hP 0 0 rfl rfl (by omega) (by decide) (z1 k (by omega)) dL_isRound_467 ?_
                                        refine lv_ldc (v := nI 100000) hx hb hown (hts (.constant RL 49 (100000)) (List.mem_of_getElem? (i := 1) rfl)) dL_isRound_468 ?_
                                        refine kx_irem hx hb (by omega) (by omega) (by omega) dL_isRound_470 ?_
                                        refine lv_bipush (v := nI 100) hx hb dL_isRound_471 (by decide) ?_
                                        refine kx_idiv hx hb (by omega) (by omega) (by omega) dL_isRound_473 ?_
                                        refine kx_icmp_eq (tgt := 479) hx hb (by omega) (by omega) dL_isRound_474 (by decide) (fun c352 => ?_) (fun c352 => by exfalso; omega)
                                        refine kx_iinc (a := k) (lv' := [(7, .int (nI (k + 1))), (11, .int (nI 1)), (10, .int (nI (T 0 k))), (9, .int (nI ((pq_d S k) % 10))), (8, .int (nI 1)), (0, .ref (L 0 0)), (1, .ref dd), (2, .int (nI (pm_bc S 1 30))), (3, .int (nI (pm_bc S 2 30 + pm_hm S 2 30))), (4, .int (nI (pm_bc S 0 30))), (5, .int (nI (S 10 0))), (6, .int (nI (pm_bc S 1 30)))]) hx hb dL_isRound_479 hl (k := 11) rfl (by decide) rfl (fun ls hl => ?_)
                                        refine lv_goto (tgt := 303) hx hb dL_isRound_482 (by decide) ?_
                                        exact ih75 (k + 1) ls (by omega) (by omega) (by exact lv_sub hl [5, 6, 7, 8, 9, 10, 11, 0] rfl) 
                                  · rw [if_neg h0] at a0 a1
                                    have hd := pq_d_n h0
                                    refine lv_aload_n hx hb dL_isRound_310 rfl (lv_at hl 1 rfl) ?_
                                    refine lv_iload hx hb dL_isRound_311 (lv_at hl 7 rfl) ?_
                                    refine kx_iald (v := nI (pq_d S k)) hx hb hK hP 0 0 rfl rfl (by omega) (by decide) (z1 k (by omega)) dL_isRound_313 ?_
                                    refine lv_ldc (v := nI 100000) hx hb hown (hts (.constant RL 49 (100000)) (List.mem_of_getElem? (i := 1) rfl)) dL_isRound_314 ?_
                                    refine kx_icmp_lt (tgt := 323) hx hb (by omega) (by decide) dL_isRound_316 (by decide) (fun c353 => ?_) (fun c353 => by exfalso; omega)
                                    refine lv_iconst (v := nI 0) hx hb dL_isRound_323 (by decide) ?_
                                    refine lv_istore (lv' := [(8, .int (nI 0)), (0, .ref (L 0 0)), (1, .ref dd), (2, .int (nI (pm_bc S 1 30))), (3, .int (nI (pm_bc S 2 30 + pm_hm S 2 30))), (4, .int (nI (pm_bc S 0 30))), (5, .int (nI (S 10 0))), (6, .int (nI (pm_bc S 1 30))), (7, .int (nI k))]) hx hb dL_isRound_324 hl (by decide) rfl (fun ls hl => ?_)
                                    refine lv_aload_n hx hb dL_isRound_326 rfl (lv_at hl 2 rfl) ?_
                                    refine lv_iload hx hb dL_isRound_327 (lv_at hl 8 rfl) ?_
                                    refine kx_iald (v := nI (pq_d S k)) hx hb hK hP 0 0 rfl rfl (by omega) (by decide) (z1 k (by omega)) dL_isRound_329 ?_
                                    refine lv_bipush (v := nI 10) hx hb dL_isRound_330 (by decide) ?_
                                    refine kx_irem hx hb (by omega) (by omega) (by omega) dL_isRound_332 ?_
                                    refine lv_istore (lv' := [(9, .int (nI ((pq_d S k) % 10))), (8, .int (nI 0)), (0, .ref (L 0 0)), (1, .ref dd), (2, .int (nI (pm_bc S 1 30))), (3, .int (nI (pm_bc S 2 30 + pm_hm S 2 30))), (4, .int (nI (pm_bc S 0 30))), (5, .int (nI (S 10 0))), (6, .int (nI (pm_bc S 1 30))), (7, .int (nI k))]) hx hb dL_isRound_333 hl (by decide) rfl (fun ls hl => ?_)
                                    refine lv_aload_n hx hb dL_isRound_335 rfl (lv_at hl 2 rfl) ?_
                                    refine lv_iload hx hb dL_isRound_336 (lv_at hl 9 rfl) ?_
                                    refine lv_iconst (v := nI 0) hx hb dL_isRound_338 (by decide) ?_
                                    have hPc : va_P D vwCl (pm_cl y L T Bs71 pi72 kn73 Gs sv U) H := pq_cut hP
                                    refine vp_callSi (W.runV (As := [.int (nI k), .int (nI 0)]) (rest := []) ⟨hx, hb, hml, hown, hts⟩ (k_X3_of l D y L T Bs71 pi72 kn73 Gs sv U Bs Gs (nI k) (nI 0) hIT.1) (cwV 2 hts gL_isRound_X3_of rfl rfl rfl hd_X3_of ⟨Nat.le_of_ble_eq_true rfl, Nat.le_of_ble_eq_true rfl⟩) ⟨pm_ro_blind, va_recv hK hPc (ci := 3) (q0 := 0) rfl rfl, pm_ro_pre hPc hK⟩ rfl rfl hl.1 rfl (lv_room (Nat.le_of_ble_eq_true rfl)) dL_isRound_339 ⟨Nat.le_of_ble_eq_true rfl, Nat.le_of_ble_eq_true rfl⟩) (fun r354 h355 => ?_)
                                    obtain rfl : r354 = nI (T 0 k) := h355.trans (pq_of0 (by omega))
                                    have := hIT.1.how k (by omega)
                                    refine lv_istore (lv' := [(10, .int (nI (T 0 k))), (9, .int (nI ((pq_d S k) % 10))), (8, .int (nI 0)), (0, .ref (L 0 0)), (1, .ref dd), (2, .int (nI (pm_bc S 1 30))), (3, .int (nI (pm_bc S 2 30 + pm_hm S 2 30))), (4, .int (nI (pm_bc S 0 30))), (5, .int (nI (S 10 0))), (6, .int (nI (pm_bc S 1 30))), (7, .int (nI k))]) hx hb dL_isRound_342 hl (by decide) rfl (fun ls hl => ?_)
                                    refine lv_iload hx hb dL_isRound_344 (lv_at hl 2 rfl) ?_
                                    refine lv_if_eq (tgt := 420) hx hb dL_isRound_346 (by decide) (fun _ => ?_) (fun c356 => (c356 (by decide)).elim)
                                    refine lv_iload hx hb dL_isRound_420 (lv_at hl 0 rfl) ?_
                                    refine lv_iload hx hb dL_isRound_422 (lv_at hl 1 rfl) ?_
                                    refine kx_icmp_ne (tgt := 431) hx hb (by omega) (by omega) dL_isRound_424 (by decide) (fun c357 => by exfalso; omega) (fun c357 => ?_)
                                    refine lv_iconst (v := nI 1) hx hb dL_isRound_427 (by decide) ?_
                                    refine lv_goto (tgt := 432) hx hb dL_isRound_428 (by decide) ?_
                                    refine lv_istore (lv' := [(11, .int (nI 1)), (10, .int (nI (T 0 k))), (9, .int (nI ((pq_d S k) % 10))), (8, .int (nI 0)), (0, .ref (L 0 0)), (1, .ref dd), (2, .int (nI (pm_bc S 1 30))), (3, .int (nI (pm_bc S 2 30 + pm_hm S 2 30))), (4, .int (nI (pm_bc S 0 30))), (5, .int (nI (S 10 0))), (6, .int (nI (pm_bc S 1 30))), (7, .int (nI k))]) hx hb dL_isRound_432 hl (by decide) rfl (fun ls hl => ?_)
                                    refine lv_iload hx hb dL_isRound_434 (lv_at hl 0 rfl) ?_
                                    refine lv_if_eq (tgt := 477) hx hb dL_isRound_436 (by decide) (fun c358 => absurd c358 (by decide)) (fun _ => ?_)
                                    refine lv_aload_n hx hb dL_isRound_439 rfl (lv_at hl 4 rfl) ?_
                                    refine lv_iload hx hb dL_isRound_440 (lv_at hl 11 rfl) ?_
                                    refine lv_iconst (v := nI 1) hx hb dL_isRound_442 (by decide) ?_
                                    have hPc : va_P D vwCl (pm_cl y L T Bs71 pi72 kn73 Gs sv U) H := pq_cut hP
                                    refine vp_callSi (W.runV (As := [.int (nI k), .int (nI 1)]) (rest := []) ⟨hx, hb, hml, hown, hts⟩ (k_X3_of l D y L T Bs71 pi72 kn73 Gs sv U Bs Gs (nI k) (nI 1) hIT.1) (cwV 2 hts gL_isRound_X3_of rfl rfl rfl hd_X3_of ⟨Nat.le_of_ble_eq_true rfl, Nat.le_of_ble_eq_true rfl⟩) ⟨pm_ro_blind, va_recv hK hPc (ci := 3) (q0 := 0) rfl rfl, pm_ro_pre hPc hK⟩ rfl rfl hl.1 rfl (lv_room (Nat.le_of_ble_eq_true rfl)) dL_isRound_443 ⟨Nat.le_of_ble_eq_true rfl, Nat.le_of_ble_eq_true rfl⟩) (fun r359 h360 => ?_)
                                    obtain rfl : r359 = nI (pm_tk (T 4 k)) := h360.trans (pq_of1 (by omega))
                                    have := pm_tk8 (T 4 k)
                                    refine lv_aload_n hx hb dL_isRound_446 rfl (lv_at hl 4 rfl) ?_
                                    refine lv_iload hx hb dL_isRound_447 (lv_at hl 11 rfl) ?_
                                    refine lv_iconst (v := nI 2) hx hb dL_isRound_449 (by decide) ?_
                                    have hPc : va_P D vwCl (pm_cl y L T Bs71 pi72 kn73 Gs sv U) H := pq_cut hP
                                    refine vp_callSi (W.runV (As := [.int (nI k), .int (nI 2)]) (rest := [.int (nI (pm_tk (T 4 k)))]) ⟨hx, hb, hml, hown, hts⟩ (k_X3_of l D y L T Bs71 pi72 kn73 Gs sv U Bs Gs (nI k) (nI 2) hIT.1) (cwV 2 hts gL_isRound_X3_of rfl rfl rfl hd_X3_of ⟨Nat.le_of_ble_eq_true rfl, Nat.le_of_ble_eq_true rfl⟩) ⟨pm_ro_blind, va_recv hK hPc (ci := 3) (q0 := 0) rfl rfl, pm_ro_pre hPc hK⟩ rfl rfl hl.1 rfl (lv_room (Nat.le_of_ble_eq_true rfl)) dL_isRound_450 ⟨Nat.le_of_ble_eq_true rfl, Nat.le_of_ble_eq_true rfl⟩) (fun r361 h362 => ?_)
                                    obtain rfl : r361 = nI (pm_ck (T 4 k)) := h362.trans (pq_of2 (by omega))
                                    have := pm_ck8 (T 4 k)
                                    refine kx_iadd hx hb dL_isRound_453 ?_
                                    refine kx_if_ne (tgt := 477) hx hb (by omega) dL_isRound_454 (by decide) (fun c363 => by exfalso; omega) (fun c363 => ?_)
                                    refine lv_aload_n hx hb dL_isRound_457 rfl (lv_at hl 4 rfl) ?_
                                    refine lv_iload hx hb dL_isRound_458 (lv_at hl 11 rfl) ?_
                                    refine lv_iconst (v := nI 3) hx hb dL_isRound_460 (by decide) ?_
                                    have hPc : va_P D vwCl (pm_cl y L T Bs71 pi72 kn73 Gs sv U) H := pq_cut hP
                                    refine vp_callSi (W.runV (As := [.int (nI k), .int (nI 3)]) (rest := []) ⟨hx, hb, hml, hown, hts⟩ (k_X3_of l D y L T Bs71 pi72 kn73 Gs sv U Bs Gs (nI k) (nI 3) hIT.1) (cwV 2 hts gL_isRound_X3_of rfl rfl rfl hd_X3_of ⟨Nat.le_of_ble_eq_true rfl, Nat.le_of_ble_eq_true rfl⟩) ⟨pm_ro_blind, va_recv hK hPc (ci := 3) (q0 := 0) rfl rfl, pm_ro_pre hPc hK⟩ rfl rfl hl.1 rfl (lv_room (Nat.le_of_ble_eq_true rfl)) dL_isRound_461 ⟨Nat.le_of_ble_eq_true rfl, Nat.le_of_ble_eq_true rfl⟩) (fun r364 h365 => ?_)
                                    obtain rfl : r364 = nI (T 1 k) := h365.trans (pq_of3 (by omega))
                                    have := hIT.1.dull k (by omega)
                                    have := hIT.1.rnd
                                    refine lv_aload_n hx hb dL_isRound_464 rfl (lv_at hl 5 rfl) ?_
                                    refine lv_iload hx hb dL_isRound_465 (lv_at hl 11 rfl) ?_
                                    refine kx_iald (v := nI (pq_d S k)) hx hb hK hP 0 0 rfl rfl (by omega) (by decide) (z1 k (by omega)) dL_isRound_467 ?_
                                    refine lv_ldc (v := nI 100000) hx hb hown (hts (.constant RL 49 (100000)) (List.mem_of_getElem? (i := 1) rfl)) dL_isRound_468 ?_
                                    refine kx_irem hx hb (by omega) (by omega) (by omega) dL_isRound_470 ?_
                                    refine lv_bipush (v := nI 100) hx hb dL_isRound_471 (by decide) ?_
                                    refine kx_idiv hx hb (by omega) (by omega) (by omega) dL_isRound_473 ?_
                                    refine kx_icmp_eq (tgt := 479) hx hb (by omega) (by omega) dL_isRound_474 (by decide) (fun c366 => ?_) (fun c366 => by exfalso; omega)
                                    refine kx_iinc (a := k) (lv' := [(7, .int (nI (k + 1))), (11, .int (nI 1)), (10, .int (nI (T 0 k))), (9, .int (nI ((pq_d S k) % 10))), (8, .int (nI 0)), (0, .ref (L 0 0)), (1, .ref dd), (2, .int (nI (pm_bc S 1 30))), (3, .int (nI (pm_bc S 2 30 + pm_hm S 2 30))), (4, .int (nI (pm_bc S 0 30))), (5, .int (nI (S 10 0))), (6, .int (nI (pm_bc S 1 30)))]) hx hb dL_isRound_479 hl (k := 11) rfl (by decide) rfl (fun ls hl => ?_)
                                    refine lv_goto (tgt := 303) hx hb dL_isRound_482 (by decide) ?_
                                    exact ih75 (k + 1) ls (by omega) (by omega) (by exact lv_sub hl [5, 6, 7, 8, 9, 10, 11, 0] rfl) 
                            exact LOOP303 (30 + 1) 0 ls (by omega) (by omega) (lv_sub hl [2, 3, 4, 5, 6, 7, 1, 0] rfl) 
                        · skip
                          have hk : k < 30 := by omega
                          have hwa := pq_wya hI hk
                          by_cases hA : S 0 k = 0 ∧ pm_aft S k = 1
                          · have hz := hwa.mpr hA
                            refine lv_aload_n hx hb dL_isRound_217 rfl (lv_at hl 1 rfl) ?_
                            refine lv_bipush (v := nI 33) hx hb dL_isRound_218 (by decide) ?_
                            refine lv_iload hx hb dL_isRound_220 (lv_at hl 6 rfl) ?_
                            refine kx_iadd hx hb dL_isRound_222 ?_
                            refine lv_topi (fun x367 e368 => ?_)
                            obtain rfl : x367 = nI 35 := e368.trans (rfl)
                            refine lv_dup2_11 hx hb dL_isRound_223 rfl rfl ?_
                            refine kx_iald (v := nI (S 8 2 + pq_fn S 2 k)) hx hb hK hP 0 0 rfl rfl (by decide) (by decide) rfl dL_isRound_224 ?_
                            refine lv_aload_n hx hb dL_isRound_225 rfl (lv_at hl 0 rfl) ?_
                            refine lv_iload hx hb dL_isRound_226 (lv_at hl 7 rfl) ?_
                            have hPc : va_P D vwCl (pm_cl y L S Bs pi kn Gs sv U) H := pq_cut hP
                            refine vp_callSi (W.runV (As := [.int (nI k)]) (rest := [.int (nI (S 8 2 + pq_fn S 2 k)), .int (nI 35), .ref dd]) ⟨hx, hb, hml, hown, hts⟩ (k_X3_why l D y L S Bs pi kn Gs sv U Bs Gs (nI k) hI.1) (cwV 1 hts gL_isRound_X3_why rfl rfl rfl hd_X3_why ⟨Nat.le_of_ble_eq_true rfl, Nat.le_of_ble_eq_true rfl⟩) ⟨pm_ro_blind, va_recv hK hPc (ci := 3) (q0 := 0) rfl rfl, pm_ro_pre hPc hK⟩ rfl rfl hl.1 rfl (lv_room (Nat.le_of_ble_eq_true rfl)) dL_isRound_228 ⟨Nat.le_of_ble_eq_true rfl, Nat.le_of_ble_eq_true rfl⟩) (fun r369 h370 => ?_)
                            obtain rfl : r369 = nI (pq_wy S k) := h370.trans (pq_whn (by omega))
                            have := pq_wy4 S k
                            refine kx_if_ne (tgt := 249) hx hb (by omega) dL_isRound_231 (by decide) (fun c371 => by exfalso; omega) (fun c371 => ?_)
                            refine lv_aload_n hx hb dL_isRound_234 rfl (lv_at hl 0 rfl) ?_
                            refine lv_iload hx hb dL_isRound_235 (lv_at hl 7 rfl) ?_
                            refine lv_iconst (v := nI 1) hx hb dL_isRound_237 (by decide) ?_
                            have hPc : va_P D vwCl (pm_cl y L S Bs pi kn Gs sv U) H := pq_cut hP
                            refine vp_callSi (W.runV (As := [.int (nI k), .int (nI 1)]) (rest := [.int (nI (S 8 2 + pq_fn S 2 k)), .int (nI 35), .ref dd]) ⟨hx, hb, hml, hown, hts⟩ (k_X3_of l D y L S Bs pi kn Gs sv U Bs Gs (nI k) (nI 1) hI.1) (cwV 2 hts gL_isRound_X3_of rfl rfl rfl hd_X3_of ⟨Nat.le_of_ble_eq_true rfl, Nat.le_of_ble_eq_true rfl⟩) ⟨pm_ro_blind, va_recv hK hPc (ci := 3) (q0 := 0) rfl rfl, pm_ro_pre hPc hK⟩ rfl rfl hl.1 rfl (lv_room (Nat.le_of_ble_eq_true rfl)) dL_isRound_238 ⟨Nat.le_of_ble_eq_true rfl, Nat.le_of_ble_eq_true rfl⟩) (fun r372 h373 => ?_)
                            obtain rfl : r372 = nI (pm_tk (S 4 k)) := h373.trans (pq_of1 (by omega))
                            have := pm_tk8 (S 4 k)
                            refine lv_iload hx hb dL_isRound_241 (lv_at hl 6 rfl) ?_
                            refine lv_ishr hx hb dL_isRound_243 ?_
                            refine lv_iconst (v := nI 1) hx hb dL_isRound_244 (by decide) ?_
                            refine lv_iand hx hb dL_isRound_245 ?_
                            refine lv_topi (fun x374 e375 => ?_)
                            obtain rfl : x374 = nI (if pm_mk (S 4 k) 2 = 1 then 1 else 0) := e375.trans (pq_bt (hI.1.okm k (by omega)) (show 2 < 3 by decide))
                            refine lv_goto (tgt := 250) hx hb dL_isRound_246 (by decide) ?_
                            refine kx_iadd hx hb dL_isRound_250 ?_
                            refine kx_iast (ws' := (dd, .inl ((y 0), 36, .inl (upd (upd (upd (upd (upd (upd (pq_f1 F S 30) 30 (nI (S 5 0))) 33 (nI (S 8 0 + pq_fn S 0 30))) 31 (nI (S 5 1))) 34 (nI (S 8 1 + pq_fn S 1 30))) 32 (nI (S 5 2))) 35 (nI (S 8 2 + pq_fn S 2 (k + 1)))))) :: pm_cl y L S Bs pi kn Gs sv U) hx hb hK hP hD hS 0 0 rfl rfl (by decide) (by decide) (pq_uu (v2 := nI (S 8 2 + pq_fn S 2 (k + 1))) (congrArg nI (by rw [pq_fn_p hA, ← Nat.add_assoc]))) rfl dL_isRound_251 (fun H locs hP hD hS => ?_)
                            refine kx_iinc (a := k) (lv' := [(7, .int (nI (k + 1))), (0, .ref (L 0 0)), (1, .ref dd), (2, .int (nI (pm_bc S 1 30))), (3, .int (nI (pm_bc S 2 30 + pm_hm S 2 30))), (4, .int (nI (pm_bc S 0 30))), (5, .int (nI (S 10 0))), (6, .int (nI 2))]) hx hb dL_isRound_252 hl (k := 7) rfl (by decide) rfl (fun ls hl => ?_)
                            refine lv_goto (tgt := 210) hx hb dL_isRound_255 (by decide) ?_
                            exact ih44 (k + 1) ls H locs hP hD hS (by omega) (by omega) (by exact lv_sub hl [1, 2, 3, 4, 5, 6, 7, 0] rfl) 
                          · have hz : ¬ pq_wy S k = 0 := fun z => hA (hwa.mp z)
                            refine lv_aload_n hx hb dL_isRound_217 rfl (lv_at hl 1 rfl) ?_
                            refine lv_bipush (v := nI 33) hx hb dL_isRound_218 (by decide) ?_
                            refine lv_iload hx hb dL_isRound_220 (lv_at hl 6 rfl) ?_
                            refine kx_iadd hx hb dL_isRound_222 ?_
                            refine lv_topi (fun x376 e377 => ?_)
                            obtain rfl : x376 = nI 35 := e377.trans (rfl)
                            refine lv_dup2_11 hx hb dL_isRound_223 rfl rfl ?_
                            refine kx_iald (v := nI (S 8 2 + pq_fn S 2 k)) hx hb hK hP 0 0 rfl rfl (by decide) (by decide) rfl dL_isRound_224 ?_
                            refine lv_aload_n hx hb dL_isRound_225 rfl (lv_at hl 0 rfl) ?_
                            refine lv_iload hx hb dL_isRound_226 (lv_at hl 7 rfl) ?_
                            have hPc : va_P D vwCl (pm_cl y L S Bs pi kn Gs sv U) H := pq_cut hP
                            refine vp_callSi (W.runV (As := [.int (nI k)]) (rest := [.int (nI (S 8 2 + pq_fn S 2 k)), .int (nI 35), .ref dd]) ⟨hx, hb, hml, hown, hts⟩ (k_X3_why l D y L S Bs pi kn Gs sv U Bs Gs (nI k) hI.1) (cwV 1 hts gL_isRound_X3_why rfl rfl rfl hd_X3_why ⟨Nat.le_of_ble_eq_true rfl, Nat.le_of_ble_eq_true rfl⟩) ⟨pm_ro_blind, va_recv hK hPc (ci := 3) (q0 := 0) rfl rfl, pm_ro_pre hPc hK⟩ rfl rfl hl.1 rfl (lv_room (Nat.le_of_ble_eq_true rfl)) dL_isRound_228 ⟨Nat.le_of_ble_eq_true rfl, Nat.le_of_ble_eq_true rfl⟩) (fun r378 h379 => ?_)
                            obtain rfl : r378 = nI (pq_wy S k) := h379.trans (pq_whn (by omega))
                            have := pq_wy4 S k
                            refine kx_if_ne (tgt := 249) hx hb (by omega) dL_isRound_231 (by decide) (fun c380 => ?_) (fun c380 => by exfalso; omega)
                            refine lv_iconst (v := nI 0) hx hb dL_isRound_249 (by decide) ?_
                            refine kx_iadd hx hb dL_isRound_250 ?_
                            refine kx_iast (ws' := (dd, .inl ((y 0), 36, .inl (upd (upd (upd (upd (upd (upd (pq_f1 F S 30) 30 (nI (S 5 0))) 33 (nI (S 8 0 + pq_fn S 0 30))) 31 (nI (S 5 1))) 34 (nI (S 8 1 + pq_fn S 1 30))) 32 (nI (S 5 2))) 35 (nI (S 8 2 + pq_fn S 2 (k + 1)))))) :: pm_cl y L S Bs pi kn Gs sv U) hx hb hK hP hD hS 0 0 rfl rfl (by decide) (by decide) (pq_uu (v2 := nI (S 8 2 + pq_fn S 2 (k + 1))) (congrArg nI (by rw [pq_fn_n hA, Nat.add_zero]))) rfl dL_isRound_251 (fun H locs hP hD hS => ?_)
                            refine kx_iinc (a := k) (lv' := [(7, .int (nI (k + 1))), (0, .ref (L 0 0)), (1, .ref dd), (2, .int (nI (pm_bc S 1 30))), (3, .int (nI (pm_bc S 2 30 + pm_hm S 2 30))), (4, .int (nI (pm_bc S 0 30))), (5, .int (nI (S 10 0))), (6, .int (nI 2))]) hx hb dL_isRound_252 hl (k := 7) rfl (by decide) rfl (fun ls hl => ?_)
                            refine lv_goto (tgt := 210) hx hb dL_isRound_255 (by decide) ?_
                            exact ih44 (k + 1) ls H locs hP hD hS (by omega) (by omega) (by exact lv_sub hl [1, 2, 3, 4, 5, 6, 7, 0] rfl) 
                    exact LOOP210 (30 + 1) 0 ls H locs hP hD hS (by omega) (by omega) (lv_sub hl [2, 3, 4, 5, 6, 7, 1, 0] rfl) 
                  · skip
                    have hk : k < 30 := by omega
                    have hwa := pq_wya hI hk
                    by_cases hA : S 0 k = 0 ∧ pm_aft S k = 1
                    · have hz := hwa.mpr hA
                      refine lv_aload_n hx hb dL_isRound_217 rfl (lv_at hl 1 rfl) ?_
                      refine lv_bipush (v := nI 33) hx hb dL_isRound_218 (by decide) ?_
                      refine lv_iload hx hb dL_isRound_220 (lv_at hl 6 rfl) ?_
                      refine kx_iadd hx hb dL_isRound_222 ?_
                      refine lv_topi (fun x381 e382 => ?_)
                      obtain rfl : x381 = nI 34 := e382.trans (rfl)
                      refine lv_dup2_11 hx hb dL_isRound_223 rfl rfl ?_
                      refine kx_iald (v := nI (S 8 1 + pq_fn S 1 k)) hx hb hK hP 0 0 rfl rfl (by decide) (by decide) rfl dL_isRound_224 ?_
                      refine lv_aload_n hx hb dL_isRound_225 rfl (lv_at hl 0 rfl) ?_
                      refine lv_iload hx hb dL_isRound_226 (lv_at hl 7 rfl) ?_
                      have hPc : va_P D vwCl (pm_cl y L S Bs pi kn Gs sv U) H := pq_cut hP
                      refine vp_callSi (W.runV (As := [.int (nI k)]) (rest := [.int (nI (S 8 1 + pq_fn S 1 k)), .int (nI 34), .ref dd]) ⟨hx, hb, hml, hown, hts⟩ (k_X3_why l D y L S Bs pi kn Gs sv U Bs Gs (nI k) hI.1) (cwV 1 hts gL_isRound_X3_why rfl rfl rfl hd_X3_why ⟨Nat.le_of_ble_eq_true rfl, Nat.le_of_ble_eq_true rfl⟩) ⟨pm_ro_blind, va_recv hK hPc (ci := 3) (q0 := 0) rfl rfl, pm_ro_pre hPc hK⟩ rfl rfl hl.1 rfl (lv_room (Nat.le_of_ble_eq_true rfl)) dL_isRound_228 ⟨Nat.le_of_ble_eq_true rfl, Nat.le_of_ble_eq_true rfl⟩) (fun r383 h384 => ?_)
                      obtain rfl : r383 = nI (pq_wy S k) := h384.trans (pq_whn (by omega))
                      have := pq_wy4 S k
                      refine kx_if_ne (tgt := 249) hx hb (by omega) dL_isRound_231 (by decide) (fun c385 => by exfalso; omega) (fun c385 => ?_)
                      refine lv_aload_n hx hb dL_isRound_234 rfl (lv_at hl 0 rfl) ?_
                      refine lv_iload hx hb dL_isRound_235 (lv_at hl 7 rfl) ?_
                      refine lv_iconst (v := nI 1) hx hb dL_isRound_237 (by decide) ?_
                      have hPc : va_P D vwCl (pm_cl y L S Bs pi kn Gs sv U) H := pq_cut hP
                      refine vp_callSi (W.runV (As := [.int (nI k), .int (nI 1)]) (rest := [.int (nI (S 8 1 + pq_fn S 1 k)), .int (nI 34), .ref dd]) ⟨hx, hb, hml, hown, hts⟩ (k_X3_of l D y L S Bs pi kn Gs sv U Bs Gs (nI k) (nI 1) hI.1) (cwV 2 hts gL_isRound_X3_of rfl rfl rfl hd_X3_of ⟨Nat.le_of_ble_eq_true rfl, Nat.le_of_ble_eq_true rfl⟩) ⟨pm_ro_blind, va_recv hK hPc (ci := 3) (q0 := 0) rfl rfl, pm_ro_pre hPc hK⟩ rfl rfl hl.1 rfl (lv_room (Nat.le_of_ble_eq_true rfl)) dL_isRound_238 ⟨Nat.le_of_ble_eq_true rfl, Nat.le_of_ble_eq_true rfl⟩) (fun r386 h387 => ?_)
                      obtain rfl : r386 = nI (pm_tk (S 4 k)) := h387.trans (pq_of1 (by omega))
                      have := pm_tk8 (S 4 k)
                      refine lv_iload hx hb dL_isRound_241 (lv_at hl 6 rfl) ?_
                      refine lv_ishr hx hb dL_isRound_243 ?_
                      refine lv_iconst (v := nI 1) hx hb dL_isRound_244 (by decide) ?_
                      refine lv_iand hx hb dL_isRound_245 ?_
                      refine lv_topi (fun x388 e389 => ?_)
                      obtain rfl : x388 = nI (if pm_mk (S 4 k) 1 = 1 then 1 else 0) := e389.trans (pq_bt (hI.1.okm k (by omega)) (show 1 < 3 by decide))
                      refine lv_goto (tgt := 250) hx hb dL_isRound_246 (by decide) ?_
                      refine kx_iadd hx hb dL_isRound_250 ?_
                      refine kx_iast (ws' := (dd, .inl ((y 0), 36, .inl (upd (upd (upd (upd (pq_f1 F S 30) 30 (nI (S 5 0))) 33 (nI (S 8 0 + pq_fn S 0 30))) 31 (nI (S 5 1))) 34 (nI (S 8 1 + pq_fn S 1 (k + 1)))))) :: pm_cl y L S Bs pi kn Gs sv U) hx hb hK hP hD hS 0 0 rfl rfl (by decide) (by decide) (pq_uu (v2 := nI (S 8 1 + pq_fn S 1 (k + 1))) (congrArg nI (by rw [pq_fn_p hA, ← Nat.add_assoc]))) rfl dL_isRound_251 (fun H locs hP hD hS => ?_)
                      refine kx_iinc (a := k) (lv' := [(7, .int (nI (k + 1))), (0, .ref (L 0 0)), (1, .ref dd), (2, .int (nI (pm_bc S 1 30))), (3, .int (nI (pm_bc S 2 30 + pm_hm S 2 30))), (4, .int (nI (pm_bc S 0 30))), (5, .int (nI (S 10 0))), (6, .int (nI 1))]) hx hb dL_isRound_252 hl (k := 7) rfl (by decide) rfl (fun ls hl => ?_)
                      refine lv_goto (tgt := 210) hx hb dL_isRound_255 (by decide) ?_
                      exact ih33 (k + 1) ls H locs hP hD hS (by omega) (by omega) (by exact lv_sub hl [1, 2, 3, 4, 5, 6, 7, 0] rfl) 
                    · have hz : ¬ pq_wy S k = 0 := fun z => hA (hwa.mp z)
                      refine lv_aload_n hx hb dL_isRound_217 rfl (lv_at hl 1 rfl) ?_
                      refine lv_bipush (v := nI 33) hx hb dL_isRound_218 (by decide) ?_
                      refine lv_iload hx hb dL_isRound_220 (lv_at hl 6 rfl) ?_
                      refine kx_iadd hx hb dL_isRound_222 ?_
                      refine lv_topi (fun x390 e391 => ?_)
                      obtain rfl : x390 = nI 34 := e391.trans (rfl)
                      refine lv_dup2_11 hx hb dL_isRound_223 rfl rfl ?_
                      refine kx_iald (v := nI (S 8 1 + pq_fn S 1 k)) hx hb hK hP 0 0 rfl rfl (by decide) (by decide) rfl dL_isRound_224 ?_
                      refine lv_aload_n hx hb dL_isRound_225 rfl (lv_at hl 0 rfl) ?_
                      refine lv_iload hx hb dL_isRound_226 (lv_at hl 7 rfl) ?_
                      have hPc : va_P D vwCl (pm_cl y L S Bs pi kn Gs sv U) H := pq_cut hP
                      refine vp_callSi (W.runV (As := [.int (nI k)]) (rest := [.int (nI (S 8 1 + pq_fn S 1 k)), .int (nI 34), .ref dd]) ⟨hx, hb, hml, hown, hts⟩ (k_X3_why l D y L S Bs pi kn Gs sv U Bs Gs (nI k) hI.1) (cwV 1 hts gL_isRound_X3_why rfl rfl rfl hd_X3_why ⟨Nat.le_of_ble_eq_true rfl, Nat.le_of_ble_eq_true rfl⟩) ⟨pm_ro_blind, va_recv hK hPc (ci := 3) (q0 := 0) rfl rfl, pm_ro_pre hPc hK⟩ rfl rfl hl.1 rfl (lv_room (Nat.le_of_ble_eq_true rfl)) dL_isRound_228 ⟨Nat.le_of_ble_eq_true rfl, Nat.le_of_ble_eq_true rfl⟩) (fun r392 h393 => ?_)
                      obtain rfl : r392 = nI (pq_wy S k) := h393.trans (pq_whn (by omega))
                      have := pq_wy4 S k
                      refine kx_if_ne (tgt := 249) hx hb (by omega) dL_isRound_231 (by decide) (fun c394 => ?_) (fun c394 => by exfalso; omega)
                      refine lv_iconst (v := nI 0) hx hb dL_isRound_249 (by decide) ?_
                      refine kx_iadd hx hb dL_isRound_250 ?_
                      refine kx_iast (ws' := (dd, .inl ((y 0), 36, .inl (upd (upd (upd (upd (pq_f1 F S 30) 30 (nI (S 5 0))) 33 (nI (S 8 0 + pq_fn S 0 30))) 31 (nI (S 5 1))) 34 (nI (S 8 1 + pq_fn S 1 (k + 1)))))) :: pm_cl y L S Bs pi kn Gs sv U) hx hb hK hP hD hS 0 0 rfl rfl (by decide) (by decide) (pq_uu (v2 := nI (S 8 1 + pq_fn S 1 (k + 1))) (congrArg nI (by rw [pq_fn_n hA, Nat.add_zero]))) rfl dL_isRound_251 (fun H locs hP hD hS => ?_)
                      refine kx_iinc (a := k) (lv' := [(7, .int (nI (k + 1))), (0, .ref (L 0 0)), (1, .ref dd), (2, .int (nI (pm_bc S 1 30))), (3, .int (nI (pm_bc S 2 30 + pm_hm S 2 30))), (4, .int (nI (pm_bc S 0 30))), (5, .int (nI (S 10 0))), (6, .int (nI 1))]) hx hb dL_isRound_252 hl (k := 7) rfl (by decide) rfl (fun ls hl => ?_)
                      refine lv_goto (tgt := 210) hx hb dL_isRound_255 (by decide) ?_
                      exact ih33 (k + 1) ls H locs hP hD hS (by omega) (by omega) (by exact lv_sub hl [1, 2, 3, 4, 5, 6, 7, 0] rfl) 
              exact LOOP210 (30 + 1) 0 ls H locs hP hD hS (by omega) (by omega) (lv_sub hl [2, 3, 4, 5, 6, 7, 1, 0] rfl) 
            · skip
              have hk : k < 30 := by omega
              have hwa := pq_wya hI hk
              by_cases hA : S 0 k = 0 ∧ pm_aft S k = 1
              · have hz := hwa.mpr hA
                refine lv_aload_n hx hb dL_isRound_217 rfl (lv_at hl 1 rfl) ?_
                refine lv_bipush (v := nI 33) hx hb dL_isRound_218 (by decide) ?_
                refine lv_iload hx hb dL_isRound_220 (lv_at hl 6 rfl) ?_
                refine kx_iadd hx hb dL_isRound_222 ?_
                refine lv_topi (fun x395 e396 => ?_)
                obtain rfl : x395 = nI 33 := e396.trans (rfl)
                refine lv_dup2_11 hx hb dL_isRound_223 rfl rfl ?_
                refine kx_iald (v := nI (S 8 0 + pq_fn S 0 k)) hx hb hK hP 0 0 rfl rfl (by decide) (by decide) rfl dL_isRound_224 ?_
                refine lv_aload_n hx hb dL_isRound_225 rfl (lv_at hl 0 rfl) ?_
                refine lv_iload hx hb dL_isRound_226 (lv_at hl 7 rfl) ?_
                have hPc : va_P D vwCl (pm_cl y L S Bs pi kn Gs sv U) H := pq_cut hP
                refine vp_callSi (W.runV (As := [.int (nI k)]) (rest := [.int (nI (S 8 0 + pq_fn S 0 k)), .int (nI 33), .ref dd]) ⟨hx, hb, hml, hown, hts⟩ (k_X3_why l D y L S Bs pi kn Gs sv U Bs Gs (nI k) hI.1) (cwV 1 hts gL_isRound_X3_why rfl rfl rfl hd_X3_why ⟨Nat.le_of_ble_eq_true rfl, Nat.le_of_ble_eq_true rfl⟩) ⟨pm_ro_blind, va_recv hK hPc (ci := 3) (q0 := 0) rfl rfl, pm_ro_pre hPc hK⟩ rfl rfl hl.1 rfl (lv_room (Nat.le_of_ble_eq_true rfl)) dL_isRound_228 ⟨Nat.le_of_ble_eq_true rfl, Nat.le_of_ble_eq_true rfl⟩) (fun r397 h398 => ?_)
                obtain rfl : r397 = nI (pq_wy S k) := h398.trans (pq_whn (by omega))
                have := pq_wy4 S k
                refine kx_if_ne (tgt := 249) hx hb (by omega) dL_isRound_231 (by decide) (fun c399 => by exfalso; omega) (fun c399 => ?_)
                refine lv_aload_n hx hb dL_isRound_234 rfl (lv_at hl 0 rfl) ?_
                refine lv_iload hx hb dL_isRound_235 (lv_at hl 7 rfl) ?_
                refine lv_iconst (v := nI 1) hx hb dL_isRound_237 (by decide) ?_
                have hPc : va_P D vwCl (pm_cl y L S Bs pi kn Gs sv U) H := pq_cut hP
                refine vp_callSi (W.runV (As := [.int (nI k), .int (nI 1)]) (rest := [.int (nI (S 8 0 + pq_fn S 0 k)), .int (nI 33), .ref dd]) ⟨hx, hb, hml, hown, hts⟩ (k_X3_of l D y L S Bs pi kn Gs sv U Bs Gs (nI k) (nI 1) hI.1) (cwV 2 hts gL_isRound_X3_of rfl rfl rfl hd_X3_of ⟨Nat.le_of_ble_eq_true rfl, Nat.le_of_ble_eq_true rfl⟩) ⟨pm_ro_blind, va_recv hK hPc (ci := 3) (q0 := 0) rfl rfl, pm_ro_pre hPc hK⟩ rfl rfl hl.1 rfl (lv_room (Nat.le_of_ble_eq_true rfl)) dL_isRound_238 ⟨Nat.le_of_ble_eq_true rfl, Nat.le_of_ble_eq_true rfl⟩) (fun r400 h401 => ?_)
                obtain rfl : r400 = nI (pm_tk (S 4 k)) := h401.trans (pq_of1 (by omega))
                have := pm_tk8 (S 4 k)
                refine lv_iload hx hb dL_isRound_241 (lv_at hl 6 rfl) ?_
                refine lv_ishr hx hb dL_isRound_243 ?_
                refine lv_iconst (v := nI 1) hx hb dL_isRound_244 (by decide) ?_
                refine lv_iand hx hb dL_isRound_245 ?_
                refine lv_topi (fun x402 e403 => ?_)
                obtain rfl : x402 = nI (if pm_mk (S 4 k) 0 = 1 then 1 else 0) := e403.trans (pq_bt (hI.1.okm k (by omega)) (show 0 < 3 by decide))
                refine lv_goto (tgt := 250) hx hb dL_isRound_246 (by decide) ?_
                refine kx_iadd hx hb dL_isRound_250 ?_
                refine kx_iast (ws' := (dd, .inl ((y 0), 36, .inl (upd (upd (pq_f1 F S 30) 30 (nI (S 5 0))) 33 (nI (S 8 0 + pq_fn S 0 (k + 1)))))) :: pm_cl y L S Bs pi kn Gs sv U) hx hb hK hP hD hS 0 0 rfl rfl (by decide) (by decide) (pq_uu (v2 := nI (S 8 0 + pq_fn S 0 (k + 1))) (congrArg nI (by rw [pq_fn_p hA, ← Nat.add_assoc]))) rfl dL_isRound_251 (fun H locs hP hD hS => ?_)
                refine kx_iinc (a := k) (lv' := [(7, .int (nI (k + 1))), (0, .ref (L 0 0)), (1, .ref dd), (2, .int (nI (pm_bc S 1 30))), (3, .int (nI (pm_bc S 2 30 + pm_hm S 2 30))), (4, .int (nI (pm_bc S 0 30))), (5, .int (nI (S 10 0))), (6, .int (nI 0))]) hx hb dL_isRound_252 hl (k := 7) rfl (by decide) rfl (fun ls hl => ?_)
                refine lv_goto (tgt := 210) hx hb dL_isRound_255 (by decide) ?_
                exact ih22 (k + 1) ls H locs hP hD hS (by omega) (by omega) (by exact lv_sub hl [1, 2, 3, 4, 5, 6, 7, 0] rfl) 
              · have hz : ¬ pq_wy S k = 0 := fun z => hA (hwa.mp z)
                refine lv_aload_n hx hb dL_isRound_217 rfl (lv_at hl 1 rfl) ?_
                refine lv_bipush (v := nI 33) hx hb dL_isRound_218 (by decide) ?_
                refine lv_iload hx hb dL_isRound_220 (lv_at hl 6 rfl) ?_
                refine kx_iadd hx hb dL_isRound_222 ?_
                refine lv_topi (fun x404 e405 => ?_)
                obtain rfl : x404 = nI 33 := e405.trans (rfl)
                refine lv_dup2_11 hx hb dL_isRound_223 rfl rfl ?_
                refine kx_iald (v := nI (S 8 0 + pq_fn S 0 k)) hx hb hK hP 0 0 rfl rfl (by decide) (by decide) rfl dL_isRound_224 ?_
                refine lv_aload_n hx hb dL_isRound_225 rfl (lv_at hl 0 rfl) ?_
                refine lv_iload hx hb dL_isRound_226 (lv_at hl 7 rfl) ?_
                have hPc : va_P D vwCl (pm_cl y L S Bs pi kn Gs sv U) H := pq_cut hP
                refine vp_callSi (W.runV (As := [.int (nI k)]) (rest := [.int (nI (S 8 0 + pq_fn S 0 k)), .int (nI 33), .ref dd]) ⟨hx, hb, hml, hown, hts⟩ (k_X3_why l D y L S Bs pi kn Gs sv U Bs Gs (nI k) hI.1) (cwV 1 hts gL_isRound_X3_why rfl rfl rfl hd_X3_why ⟨Nat.le_of_ble_eq_true rfl, Nat.le_of_ble_eq_true rfl⟩) ⟨pm_ro_blind, va_recv hK hPc (ci := 3) (q0 := 0) rfl rfl, pm_ro_pre hPc hK⟩ rfl rfl hl.1 rfl (lv_room (Nat.le_of_ble_eq_true rfl)) dL_isRound_228 ⟨Nat.le_of_ble_eq_true rfl, Nat.le_of_ble_eq_true rfl⟩) (fun r406 h407 => ?_)
                obtain rfl : r406 = nI (pq_wy S k) := h407.trans (pq_whn (by omega))
                have := pq_wy4 S k
                refine kx_if_ne (tgt := 249) hx hb (by omega) dL_isRound_231 (by decide) (fun c408 => ?_) (fun c408 => by exfalso; omega)
                refine lv_iconst (v := nI 0) hx hb dL_isRound_249 (by decide) ?_
                refine kx_iadd hx hb dL_isRound_250 ?_
                refine kx_iast (ws' := (dd, .inl ((y 0), 36, .inl (upd (upd (pq_f1 F S 30) 30 (nI (S 5 0))) 33 (nI (S 8 0 + pq_fn S 0 (k + 1)))))) :: pm_cl y L S Bs pi kn Gs sv U) hx hb hK hP hD hS 0 0 rfl rfl (by decide) (by decide) (pq_uu (v2 := nI (S 8 0 + pq_fn S 0 (k + 1))) (congrArg nI (by rw [pq_fn_n hA, Nat.add_zero]))) rfl dL_isRound_251 (fun H locs hP hD hS => ?_)
                refine kx_iinc (a := k) (lv' := [(7, .int (nI (k + 1))), (0, .ref (L 0 0)), (1, .ref dd), (2, .int (nI (pm_bc S 1 30))), (3, .int (nI (pm_bc S 2 30 + pm_hm S 2 30))), (4, .int (nI (pm_bc S 0 30))), (5, .int (nI (S 10 0))), (6, .int (nI 0))]) hx hb dL_isRound_252 hl (k := 7) rfl (by decide) rfl (fun ls hl => ?_)
                refine lv_goto (tgt := 210) hx hb dL_isRound_255 (by decide) ?_
                exact ih22 (k + 1) ls H locs hP hD hS (by omega) (by omega) (by exact lv_sub hl [1, 2, 3, 4, 5, 6, 7, 0] rfl) 
        exact LOOP210 (30 + 1) 0 ls H locs hP hD hS (by omega) (by omega) (lv_sub hl [2, 3, 4, 5, 6, 7, 1, 0] rfl) 
      · skip
        have hk : k < 30 := by omega
        by_cases h0 : S 0 k = 0
        · skip
          rcases pq_open hI hk h0 with ⟨hcc, hck, hw, ha, hd⟩ | ⟨hcc, hck, hw, ha, hd⟩ | ⟨hcc, hck, hn, htk, hw, ha, hd⟩ | ⟨hcc, hck, hn, htk, hw, ha, hd⟩ | ⟨hcc, hck, hn, htk, hq, hw, ha, hd⟩ | ⟨hcc, hck, hn, htk, hq, hw, ha, hd⟩
          · skip
            refine lv_aload_n hx hb dL_isRound_42 rfl (lv_at hl 0 rfl) ?_
            refine lv_iload hx hb dL_isRound_43 (lv_at hl 6 rfl) ?_
            refine lv_iconst (v := nI 1) hx hb dL_isRound_45 (by decide) ?_
            have hPc : va_P D vwCl (pm_cl y L S Bs pi kn Gs sv U) H := pq_cut hP
            refine vp_callSi (W.runV (As := [.int (nI k), .int (nI 1)]) (rest := []) ⟨hx, hb, hml, hown, hts⟩ (k_X3_of l D y L S Bs pi kn Gs sv U Bs Gs (nI k) (nI 1) hI.1) (cwV 2 hts gL_isRound_X3_of rfl rfl rfl hd_X3_of ⟨Nat.le_of_ble_eq_true rfl, Nat.le_of_ble_eq_true rfl⟩) ⟨pm_ro_blind, va_recv hK hPc (ci := 3) (q0 := 0) rfl rfl, pm_ro_pre hPc hK⟩ rfl rfl hl.1 rfl (lv_room (Nat.le_of_ble_eq_true rfl)) dL_isRound_46 ⟨Nat.le_of_ble_eq_true rfl, Nat.le_of_ble_eq_true rfl⟩) (fun r409 h410 => ?_)
            obtain rfl : r409 = nI (pm_tk (S 4 k)) := h410.trans (pq_of1 (by omega))
            have := pm_tk8 (S 4 k)
            refine lv_istore (lv' := [(7, .int (nI (pm_tk (S 4 k)))), (0, .ref (L 0 0)), (1, .ref dd), (2, .int (nI (pm_bc S 1 30))), (3, .int (nI (pm_bc S 2 30 + pm_hm S 2 30))), (4, .int (nI (pm_bc S 0 30))), (5, .int (nI (S 10 0))), (6, .int (nI k))]) hx hb dL_isRound_49 hl (by decide) rfl (fun ls hl => ?_)
            refine lv_aload_n hx hb dL_isRound_51 rfl (lv_at hl 1 rfl) ?_
            refine lv_iload hx hb dL_isRound_52 (lv_at hl 7 rfl) ?_
            refine lv_iconst (v := nI 2) hx hb dL_isRound_54 (by decide) ?_
            have hPc : va_P D vwCl (pm_cl y L S Bs pi kn Gs sv U) H := pq_cut hP
            refine vp_callSi (W.runV (As := [.int (nI k), .int (nI 2)]) (rest := []) ⟨hx, hb, hml, hown, hts⟩ (k_X3_of l D y L S Bs pi kn Gs sv U Bs Gs (nI k) (nI 2) hI.1) (cwV 2 hts gL_isRound_X3_of rfl rfl rfl hd_X3_of ⟨Nat.le_of_ble_eq_true rfl, Nat.le_of_ble_eq_true rfl⟩) ⟨pm_ro_blind, va_recv hK hPc (ci := 3) (q0 := 0) rfl rfl, pm_ro_pre hPc hK⟩ rfl rfl hl.1 rfl (lv_room (Nat.le_of_ble_eq_true rfl)) dL_isRound_55 ⟨Nat.le_of_ble_eq_true rfl, Nat.le_of_ble_eq_true rfl⟩) (fun r411 h412 => ?_)
            obtain rfl : r411 = nI (pm_ck (S 4 k)) := h412.trans (pq_of2 (by omega))
            have := pm_ck8 (S 4 k)
            refine lv_istore (lv' := [(8, .int (nI (pm_ck (S 4 k)))), (7, .int (nI (pm_tk (S 4 k)))), (0, .ref (L 0 0)), (1, .ref dd), (2, .int (nI (pm_bc S 1 30))), (3, .int (nI (pm_bc S 2 30 + pm_hm S 2 30))), (4, .int (nI (pm_bc S 0 30))), (5, .int (nI (S 10 0))), (6, .int (nI k))]) hx hb dL_isRound_58 hl (by decide) rfl (fun ls hl => ?_)
            refine lv_aload_n hx hb dL_isRound_60 rfl (lv_at hl 2 rfl) ?_
            refine lv_iload hx hb dL_isRound_61 (lv_at hl 8 rfl) ?_
            refine lv_iconst (v := nI 0) hx hb dL_isRound_63 (by decide) ?_
            have hPc : va_P D vwCl (pm_cl y L S Bs pi kn Gs sv U) H := pq_cut hP
            refine vp_callSi (W.runV (As := [.int (nI k), .int (nI 0)]) (rest := []) ⟨hx, hb, hml, hown, hts⟩ (k_X3_of l D y L S Bs pi kn Gs sv U Bs Gs (nI k) (nI 0) hI.1) (cwV 2 hts gL_isRound_X3_of rfl rfl rfl hd_X3_of ⟨Nat.le_of_ble_eq_true rfl, Nat.le_of_ble_eq_true rfl⟩) ⟨pm_ro_blind, va_recv hK hPc (ci := 3) (q0 := 0) rfl rfl, pm_ro_pre hPc hK⟩ rfl rfl hl.1 rfl (lv_room (Nat.le_of_ble_eq_true rfl)) dL_isRound_64 ⟨Nat.le_of_ble_eq_true rfl, Nat.le_of_ble_eq_true rfl⟩) (fun r413 h414 => ?_)
            obtain rfl : r413 = nI 0 := h414.trans ((pq_of0 (by omega)).trans (congrArg nI h0))
            refine lv_if_ne (tgt := 78) hx hb dL_isRound_67 (by decide) (fun c415 => (c415 (by decide)).elim) (fun _ => ?_)
            refine lv_iload hx hb dL_isRound_70 (lv_at hl 1 rfl) ?_
            refine lv_iload hx hb dL_isRound_72 (lv_at hl 0 rfl) ?_
            refine kx_iadd hx hb dL_isRound_74 ?_
            refine kx_if_ne (tgt := 104) hx hb (by omega) dL_isRound_75 (by decide) (fun c416 => ?_) (fun c416 => by exfalso; omega)
            refine lv_iconst (v := nI 0) hx hb dL_isRound_104 (by decide) ?_
            refine lv_istore (lv' := [(9, .int (nI 0)), (8, .int (nI (pm_ck (S 4 k)))), (7, .int (nI (pm_tk (S 4 k)))), (0, .ref (L 0 0)), (1, .ref dd), (2, .int (nI (pm_bc S 1 30))), (3, .int (nI (pm_bc S 2 30 + pm_hm S 2 30))), (4, .int (nI (pm_bc S 0 30))), (5, .int (nI (S 10 0))), (6, .int (nI k))]) hx hb dL_isRound_105 hl (by decide) rfl (fun ls hl => ?_)
            refine lv_aload_n hx hb dL_isRound_107 rfl (lv_at hl 4 rfl) ?_
            refine lv_iload hx hb dL_isRound_108 (lv_at hl 9 rfl) ?_
            refine lv_bipush (v := nI 10) hx hb dL_isRound_110 (by decide) ?_
            refine lv_iload hx hb dL_isRound_112 (lv_at hl 2 rfl) ?_
            refine vp_callSi (W.runS (As := [.int (nI (pm_tk (S 4 k)))]) (rest := [.int (nI 10), .int (nI k), .ref dd]) ⟨hx, hb, hml, hown, hts⟩ (k_L_ones l (pm_tk (S 4 k)) (by omega)) (va_cwS 1 hts gL_isRound_L_ones rfl rfl rfl hd_L_ones ⟨Nat.le_of_ble_eq_true rfl, Nat.le_of_ble_eq_true rfl⟩) ⟨pm_no_blind, pm_no_pre⟩ rfl rfl hl.1 rfl (lv_room (Nat.le_of_ble_eq_true rfl)) dL_isRound_114 ⟨Nat.le_of_ble_eq_true rfl, Nat.le_of_ble_eq_true rfl⟩) (fun r417 h418 => ?_)
            obtain rfl : r417 = nI (pm_tc (S 4 k)) := h418
            have : pm_tc (S 4 k) < 4 := pm_pc4 _
            refine kx_imul hx hb dL_isRound_117 ?_
            refine lv_aload_n hx hb dL_isRound_118 rfl (lv_at hl 3 rfl) ?_
            refine lv_iload hx hb dL_isRound_119 (lv_at hl 9 rfl) ?_
            have hPc : va_P D vwCl (pm_cl y L S Bs pi kn Gs sv U) H := pq_cut hP
            refine vp_callSi (W.runV (As := [.int (nI k)]) (rest := [.int (nI (10 * (pm_tc (S 4 k)))), .int (nI k), .ref dd]) ⟨hx, hb, hml, hown, hts⟩ (k_X3_why l D y L S Bs pi kn Gs sv U Bs Gs (nI k) hI.1) (cwV 1 hts gL_isRound_X3_why rfl rfl rfl hd_X3_why ⟨Nat.le_of_ble_eq_true rfl, Nat.le_of_ble_eq_true rfl⟩) ⟨pm_ro_blind, va_recv hK hPc (ci := 3) (q0 := 0) rfl rfl, pm_ro_pre hPc hK⟩ rfl rfl hl.1 rfl (lv_room (Nat.le_of_ble_eq_true rfl)) dL_isRound_121 ⟨Nat.le_of_ble_eq_true rfl, Nat.le_of_ble_eq_true rfl⟩) (fun r419 h420 => ?_)
            obtain rfl : r419 = nI 2 := h420.trans (hw)
            refine lv_if_ne (tgt := 131) hx hb dL_isRound_124 (by decide) (fun _ => ?_) (fun c421 => absurd c421 (by decide))
            refine lv_aload_n hx hb dL_isRound_131 rfl (lv_at hl 3 rfl) ?_
            refine lv_iload hx hb dL_isRound_132 (lv_at hl 9 rfl) ?_
            refine lv_iconst (v := nI 0) hx hb dL_isRound_134 (by decide) ?_
            have hPc : va_P D vwCl (pm_cl y L S Bs pi kn Gs sv U) H := pq_cut hP
            refine vp_callSi (W.runV (As := [.int (nI k), .int (nI 0)]) (rest := [.int (nI (10 * (pm_tc (S 4 k)))), .int (nI k), .ref dd]) ⟨hx, hb, hml, hown, hts⟩ (k_X3_of l D y L S Bs pi kn Gs sv U Bs Gs (nI k) (nI 0) hI.1) (cwV 2 hts gL_isRound_X3_of rfl rfl rfl hd_X3_of ⟨Nat.le_of_ble_eq_true rfl, Nat.le_of_ble_eq_true rfl⟩) ⟨pm_ro_blind, va_recv hK hPc (ci := 3) (q0 := 0) rfl rfl, pm_ro_pre hPc hK⟩ rfl rfl hl.1 rfl (lv_room (Nat.le_of_ble_eq_true rfl)) dL_isRound_135 ⟨Nat.le_of_ble_eq_true rfl, Nat.le_of_ble_eq_true rfl⟩) (fun r422 h423 => ?_)
            obtain rfl : r422 = nI 0 := h423.trans ((pq_of0 (by omega)).trans (congrArg nI h0))
            refine kx_iadd hx hb dL_isRound_138 ?_
            refine lv_bipush (v := nI 100) hx hb dL_isRound_139 (by decide) ?_
            refine lv_iload hx hb dL_isRound_141 (lv_at hl 0 rfl) ?_
            refine kx_imul hx hb dL_isRound_143 ?_
            refine lv_topi (fun x424 e425 => ?_)
            obtain rfl : x424 = nI 0 := e425.trans (rfl)
            refine kx_iadd hx hb dL_isRound_144 ?_
            refine lv_aload_n hx hb dL_isRound_145 rfl (lv_at hl 3 rfl) ?_
            refine lv_iload hx hb dL_isRound_146 (lv_at hl 9 rfl) ?_
            refine lv_iconst (v := nI 0) hx hb dL_isRound_148 (by decide) ?_
            have hPc : va_P D vwCl (pm_cl y L S Bs pi kn Gs sv U) H := pq_cut hP
            refine vp_callSi (W.runV (As := [.int (nI k), .int (nI 0)]) (rest := [.int (nI (((10 * (pm_tc (S 4 k))) + 0) + 0)), .int (nI k), .ref dd]) ⟨hx, hb, hml, hown, hts⟩ (k_X3_of l D y L S Bs pi kn Gs sv U Bs Gs (nI k) (nI 0) hI.1) (cwV 2 hts gL_isRound_X3_of rfl rfl rfl hd_X3_of ⟨Nat.le_of_ble_eq_true rfl, Nat.le_of_ble_eq_true rfl⟩) ⟨pm_ro_blind, va_recv hK hPc (ci := 3) (q0 := 0) rfl rfl, pm_ro_pre hPc hK⟩ rfl rfl hl.1 rfl (lv_room (Nat.le_of_ble_eq_true rfl)) dL_isRound_149 ⟨Nat.le_of_ble_eq_true rfl, Nat.le_of_ble_eq_true rfl⟩) (fun r426 h427 => ?_)
            obtain rfl : r426 = nI 0 := h427.trans ((pq_of0 (by omega)).trans (congrArg nI h0))
            refine lv_if_ne (tgt := 160) hx hb dL_isRound_152 (by decide) (fun c428 => (c428 (by decide)).elim) (fun _ => ?_)
            refine lv_ldc (v := nI 100000) hx hb hown (hts (.constant RL 49 (100000)) (List.mem_of_getElem? (i := 1) rfl)) dL_isRound_155 ?_
            refine lv_goto (tgt := 161) hx hb dL_isRound_157 (by decide) ?_
            refine kx_iadd hx hb dL_isRound_161 ?_
            refine lv_topi (fun x429 e430 => ?_)
            obtain rfl : x429 = nI (pq_d S k) := e430.trans (congrArg nI (by have h9 := pq_d_o0 h0 (by omega); omega))
            refine kx_iast (ws' := (dd, .inl ((y 0), 36, .inl (pq_f1 F S (k + 1)))) :: pm_cl y L S Bs pi kn Gs sv U) hx hb hK hP hD hS 0 0 rfl rfl (by omega) (by decide) (pq_f1_s F S k) rfl dL_isRound_162 (fun H locs hP hD hS => ?_)
            refine kx_iinc (a := k) (lv' := [(6, .int (nI (k + 1))), (9, .int (nI 0)), (8, .int (nI (pm_ck (S 4 k)))), (7, .int (nI (pm_tk (S 4 k)))), (0, .ref (L 0 0)), (1, .ref dd), (2, .int (nI (pm_bc S 1 30))), (3, .int (nI (pm_bc S 2 30 + pm_hm S 2 30))), (4, .int (nI (pm_bc S 0 30))), (5, .int (nI (S 10 0)))]) hx hb dL_isRound_163 hl (k := 9) rfl (by decide) rfl (fun ls hl => ?_)
            refine lv_goto (tgt := 35) hx hb dL_isRound_166 (by decide) ?_
            exact ih11 (k + 1) ls H locs hP hD hS (by omega) (by omega) (by exact lv_sub hl [4, 5, 6, 7, 8, 9, 0] rfl) 
          · skip
            refine lv_aload_n hx hb dL_isRound_42 rfl (lv_at hl 0 rfl) ?_
            refine lv_iload hx hb dL_isRound_43 (lv_at hl 6 rfl) ?_
            refine lv_iconst (v := nI 1) hx hb dL_isRound_45 (by decide) ?_
            have hPc : va_P D vwCl (pm_cl y L S Bs pi kn Gs sv U) H := pq_cut hP
            refine vp_callSi (W.runV (As := [.int (nI k), .int (nI 1)]) (rest := []) ⟨hx, hb, hml, hown, hts⟩ (k_X3_of l D y L S Bs pi kn Gs sv U Bs Gs (nI k) (nI 1) hI.1) (cwV 2 hts gL_isRound_X3_of rfl rfl rfl hd_X3_of ⟨Nat.le_of_ble_eq_true rfl, Nat.le_of_ble_eq_true rfl⟩) ⟨pm_ro_blind, va_recv hK hPc (ci := 3) (q0 := 0) rfl rfl, pm_ro_pre hPc hK⟩ rfl rfl hl.1 rfl (lv_room (Nat.le_of_ble_eq_true rfl)) dL_isRound_46 ⟨Nat.le_of_ble_eq_true rfl, Nat.le_of_ble_eq_true rfl⟩) (fun r431 h432 => ?_)
            obtain rfl : r431 = nI (pm_tk (S 4 k)) := h432.trans (pq_of1 (by omega))
            have := pm_tk8 (S 4 k)
            refine lv_istore (lv' := [(7, .int (nI (pm_tk (S 4 k)))), (0, .ref (L 0 0)), (1, .ref dd), (2, .int (nI (pm_bc S 1 30))), (3, .int (nI (pm_bc S 2 30 + pm_hm S 2 30))), (4, .int (nI (pm_bc S 0 30))), (5, .int (nI (S 10 0))), (6, .int (nI k))]) hx hb dL_isRound_49 hl (by decide) rfl (fun ls hl => ?_)
            refine lv_aload_n hx hb dL_isRound_51 rfl (lv_at hl 1 rfl) ?_
            refine lv_iload hx hb dL_isRound_52 (lv_at hl 7 rfl) ?_
            refine lv_iconst (v := nI 2) hx hb dL_isRound_54 (by decide) ?_
            have hPc : va_P D vwCl (pm_cl y L S Bs pi kn Gs sv U) H := pq_cut hP
            refine vp_callSi (W.runV (As := [.int (nI k), .int (nI 2)]) (rest := []) ⟨hx, hb, hml, hown, hts⟩ (k_X3_of l D y L S Bs pi kn Gs sv U Bs Gs (nI k) (nI 2) hI.1) (cwV 2 hts gL_isRound_X3_of rfl rfl rfl hd_X3_of ⟨Nat.le_of_ble_eq_true rfl, Nat.le_of_ble_eq_true rfl⟩) ⟨pm_ro_blind, va_recv hK hPc (ci := 3) (q0 := 0) rfl rfl, pm_ro_pre hPc hK⟩ rfl rfl hl.1 rfl (lv_room (Nat.le_of_ble_eq_true rfl)) dL_isRound_55 ⟨Nat.le_of_ble_eq_true rfl, Nat.le_of_ble_eq_true rfl⟩) (fun r433 h434 => ?_)
            obtain rfl : r433 = nI (pm_ck (S 4 k)) := h434.trans (pq_of2 (by omega))
            have := pm_ck8 (S 4 k)
            refine lv_istore (lv' := [(8, .int (nI (pm_ck (S 4 k)))), (7, .int (nI (pm_tk (S 4 k)))), (0, .ref (L 0 0)), (1, .ref dd), (2, .int (nI (pm_bc S 1 30))), (3, .int (nI (pm_bc S 2 30 + pm_hm S 2 30))), (4, .int (nI (pm_bc S 0 30))), (5, .int (nI (S 10 0))), (6, .int (nI k))]) hx hb dL_isRound_58 hl (by decide) rfl (fun ls hl => ?_)
            refine lv_aload_n hx hb dL_isRound_60 rfl (lv_at hl 2 rfl) ?_
            refine lv_iload hx hb dL_isRound_61 (lv_at hl 8 rfl) ?_
            refine lv_iconst (v := nI 0) hx hb dL_isRound_63 (by decide) ?_
            have hPc : va_P D vwCl (pm_cl y L S Bs pi kn Gs sv U) H := pq_cut hP
            refine vp_callSi (W.runV (As := [.int (nI k), .int (nI 0)]) (rest := []) ⟨hx, hb, hml, hown, hts⟩ (k_X3_of l D y L S Bs pi kn Gs sv U Bs Gs (nI k) (nI 0) hI.1) (cwV 2 hts gL_isRound_X3_of rfl rfl rfl hd_X3_of ⟨Nat.le_of_ble_eq_true rfl, Nat.le_of_ble_eq_true rfl⟩) ⟨pm_ro_blind, va_recv hK hPc (ci := 3) (q0 := 0) rfl rfl, pm_ro_pre hPc hK⟩ rfl rfl hl.1 rfl (lv_room (Nat.le_of_ble_eq_true rfl)) dL_isRound_64 ⟨Nat.le_of_ble_eq_true rfl, Nat.le_of_ble_eq_true rfl⟩) (fun r435 h436 => ?_)
            obtain rfl : r435 = nI 0 := h436.trans ((pq_of0 (by omega)).trans (congrArg nI h0))
            refine lv_if_ne (tgt := 78) hx hb dL_isRound_67 (by decide) (fun c437 => (c437 (by decide)).elim) (fun _ => ?_)
            refine lv_iload hx hb dL_isRound_70 (lv_at hl 1 rfl) ?_
            refine lv_iload hx hb dL_isRound_72 (lv_at hl 0 rfl) ?_
            refine kx_iadd hx hb dL_isRound_74 ?_
            refine kx_if_ne (tgt := 104) hx hb (by omega) dL_isRound_75 (by decide) (fun c438 => ?_) (fun c438 => by exfalso; omega)
            refine lv_iconst (v := nI 0) hx hb dL_isRound_104 (by decide) ?_
            refine lv_istore (lv' := [(9, .int (nI 0)), (8, .int (nI (pm_ck (S 4 k)))), (7, .int (nI (pm_tk (S 4 k)))), (0, .ref (L 0 0)), (1, .ref dd), (2, .int (nI (pm_bc S 1 30))), (3, .int (nI (pm_bc S 2 30 + pm_hm S 2 30))), (4, .int (nI (pm_bc S 0 30))), (5, .int (nI (S 10 0))), (6, .int (nI k))]) hx hb dL_isRound_105 hl (by decide) rfl (fun ls hl => ?_)
            refine lv_aload_n hx hb dL_isRound_107 rfl (lv_at hl 4 rfl) ?_
            refine lv_iload hx hb dL_isRound_108 (lv_at hl 9 rfl) ?_
            refine lv_bipush (v := nI 10) hx hb dL_isRound_110 (by decide) ?_
            refine lv_iload hx hb dL_isRound_112 (lv_at hl 2 rfl) ?_
            refine vp_callSi (W.runS (As := [.int (nI (pm_tk (S 4 k)))]) (rest := [.int (nI 10), .int (nI k), .ref dd]) ⟨hx, hb, hml, hown, hts⟩ (k_L_ones l (pm_tk (S 4 k)) (by omega)) (va_cwS 1 hts gL_isRound_L_ones rfl rfl rfl hd_L_ones ⟨Nat.le_of_ble_eq_true rfl, Nat.le_of_ble_eq_true rfl⟩) ⟨pm_no_blind, pm_no_pre⟩ rfl rfl hl.1 rfl (lv_room (Nat.le_of_ble_eq_true rfl)) dL_isRound_114 ⟨Nat.le_of_ble_eq_true rfl, Nat.le_of_ble_eq_true rfl⟩) (fun r439 h440 => ?_)
            obtain rfl : r439 = nI (pm_tc (S 4 k)) := h440
            have : pm_tc (S 4 k) < 4 := pm_pc4 _
            refine kx_imul hx hb dL_isRound_117 ?_
            refine lv_aload_n hx hb dL_isRound_118 rfl (lv_at hl 3 rfl) ?_
            refine lv_iload hx hb dL_isRound_119 (lv_at hl 9 rfl) ?_
            have hPc : va_P D vwCl (pm_cl y L S Bs pi kn Gs sv U) H := pq_cut hP
            refine vp_callSi (W.runV (As := [.int (nI k)]) (rest := [.int (nI (10 * (pm_tc (S 4 k)))), .int (nI k), .ref dd]) ⟨hx, hb, hml, hown, hts⟩ (k_X3_why l D y L S Bs pi kn Gs sv U Bs Gs (nI k) hI.1) (cwV 1 hts gL_isRound_X3_why rfl rfl rfl hd_X3_why ⟨Nat.le_of_ble_eq_true rfl, Nat.le_of_ble_eq_true rfl⟩) ⟨pm_ro_blind, va_recv hK hPc (ci := 3) (q0 := 0) rfl rfl, pm_ro_pre hPc hK⟩ rfl rfl hl.1 rfl (lv_room (Nat.le_of_ble_eq_true rfl)) dL_isRound_121 ⟨Nat.le_of_ble_eq_true rfl, Nat.le_of_ble_eq_true rfl⟩) (fun r441 h442 => ?_)
            obtain rfl : r441 = nI 2 := h442.trans (hw)
            refine lv_if_ne (tgt := 131) hx hb dL_isRound_124 (by decide) (fun _ => ?_) (fun c443 => absurd c443 (by decide))
            refine lv_aload_n hx hb dL_isRound_131 rfl (lv_at hl 3 rfl) ?_
            refine lv_iload hx hb dL_isRound_132 (lv_at hl 9 rfl) ?_
            refine lv_iconst (v := nI 0) hx hb dL_isRound_134 (by decide) ?_
            have hPc : va_P D vwCl (pm_cl y L S Bs pi kn Gs sv U) H := pq_cut hP
            refine vp_callSi (W.runV (As := [.int (nI k), .int (nI 0)]) (rest := [.int (nI (10 * (pm_tc (S 4 k)))), .int (nI k), .ref dd]) ⟨hx, hb, hml, hown, hts⟩ (k_X3_of l D y L S Bs pi kn Gs sv U Bs Gs (nI k) (nI 0) hI.1) (cwV 2 hts gL_isRound_X3_of rfl rfl rfl hd_X3_of ⟨Nat.le_of_ble_eq_true rfl, Nat.le_of_ble_eq_true rfl⟩) ⟨pm_ro_blind, va_recv hK hPc (ci := 3) (q0 := 0) rfl rfl, pm_ro_pre hPc hK⟩ rfl rfl hl.1 rfl (lv_room (Nat.le_of_ble_eq_true rfl)) dL_isRound_135 ⟨Nat.le_of_ble_eq_true rfl, Nat.le_of_ble_eq_true rfl⟩) (fun r444 h445 => ?_)
            obtain rfl : r444 = nI 0 := h445.trans ((pq_of0 (by omega)).trans (congrArg nI h0))
            refine kx_iadd hx hb dL_isRound_138 ?_
            refine lv_bipush (v := nI 100) hx hb dL_isRound_139 (by decide) ?_
            refine lv_iload hx hb dL_isRound_141 (lv_at hl 0 rfl) ?_
            refine kx_imul hx hb dL_isRound_143 ?_
            refine lv_topi (fun x446 e447 => ?_)
            obtain rfl : x446 = nI 0 := e447.trans (rfl)
            refine kx_iadd hx hb dL_isRound_144 ?_
            refine lv_aload_n hx hb dL_isRound_145 rfl (lv_at hl 3 rfl) ?_
            refine lv_iload hx hb dL_isRound_146 (lv_at hl 9 rfl) ?_
            refine lv_iconst (v := nI 0) hx hb dL_isRound_148 (by decide) ?_
            have hPc : va_P D vwCl (pm_cl y L S Bs pi kn Gs sv U) H := pq_cut hP
            refine vp_callSi (W.runV (As := [.int (nI k), .int (nI 0)]) (rest := [.int (nI (((10 * (pm_tc (S 4 k))) + 0) + 0)), .int (nI k), .ref dd]) ⟨hx, hb, hml, hown, hts⟩ (k_X3_of l D y L S Bs pi kn Gs sv U Bs Gs (nI k) (nI 0) hI.1) (cwV 2 hts gL_isRound_X3_of rfl rfl rfl hd_X3_of ⟨Nat.le_of_ble_eq_true rfl, Nat.le_of_ble_eq_true rfl⟩) ⟨pm_ro_blind, va_recv hK hPc (ci := 3) (q0 := 0) rfl rfl, pm_ro_pre hPc hK⟩ rfl rfl hl.1 rfl (lv_room (Nat.le_of_ble_eq_true rfl)) dL_isRound_149 ⟨Nat.le_of_ble_eq_true rfl, Nat.le_of_ble_eq_true rfl⟩) (fun r448 h449 => ?_)
            obtain rfl : r448 = nI 0 := h449.trans ((pq_of0 (by omega)).trans (congrArg nI h0))
            refine lv_if_ne (tgt := 160) hx hb dL_isRound_152 (by decide) (fun c450 => (c450 (by decide)).elim) (fun _ => ?_)
            refine lv_ldc (v := nI 100000) hx hb hown (hts (.constant RL 49 (100000)) (List.mem_of_getElem? (i := 1) rfl)) dL_isRound_155 ?_
            refine lv_goto (tgt := 161) hx hb dL_isRound_157 (by decide) ?_
            refine kx_iadd hx hb dL_isRound_161 ?_
            refine lv_topi (fun x451 e452 => ?_)
            obtain rfl : x451 = nI (pq_d S k) := e452.trans (congrArg nI (by have h9 := pq_d_o0 h0 (by omega); omega))
            refine kx_iast (ws' := (dd, .inl ((y 0), 36, .inl (pq_f1 F S (k + 1)))) :: pm_cl y L S Bs pi kn Gs sv U) hx hb hK hP hD hS 0 0 rfl rfl (by omega) (by decide) (pq_f1_s F S k) rfl dL_isRound_162 (fun H locs hP hD hS => ?_)
            refine kx_iinc (a := k) (lv' := [(6, .int (nI (k + 1))), (9, .int (nI 0)), (8, .int (nI (pm_ck (S 4 k)))), (7, .int (nI (pm_tk (S 4 k)))), (0, .ref (L 0 0)), (1, .ref dd), (2, .int (nI (pm_bc S 1 30))), (3, .int (nI (pm_bc S 2 30 + pm_hm S 2 30))), (4, .int (nI (pm_bc S 0 30))), (5, .int (nI (S 10 0)))]) hx hb dL_isRound_163 hl (k := 9) rfl (by decide) rfl (fun ls hl => ?_)
            refine lv_goto (tgt := 35) hx hb dL_isRound_166 (by decide) ?_
            exact ih11 (k + 1) ls H locs hP hD hS (by omega) (by omega) (by exact lv_sub hl [4, 5, 6, 7, 8, 9, 0] rfl) 
          · skip
            refine lv_aload_n hx hb dL_isRound_42 rfl (lv_at hl 0 rfl) ?_
            refine lv_iload hx hb dL_isRound_43 (lv_at hl 6 rfl) ?_
            refine lv_iconst (v := nI 1) hx hb dL_isRound_45 (by decide) ?_
            have hPc : va_P D vwCl (pm_cl y L S Bs pi kn Gs sv U) H := pq_cut hP
            refine vp_callSi (W.runV (As := [.int (nI k), .int (nI 1)]) (rest := []) ⟨hx, hb, hml, hown, hts⟩ (k_X3_of l D y L S Bs pi kn Gs sv U Bs Gs (nI k) (nI 1) hI.1) (cwV 2 hts gL_isRound_X3_of rfl rfl rfl hd_X3_of ⟨Nat.le_of_ble_eq_true rfl, Nat.le_of_ble_eq_true rfl⟩) ⟨pm_ro_blind, va_recv hK hPc (ci := 3) (q0 := 0) rfl rfl, pm_ro_pre hPc hK⟩ rfl rfl hl.1 rfl (lv_room (Nat.le_of_ble_eq_true rfl)) dL_isRound_46 ⟨Nat.le_of_ble_eq_true rfl, Nat.le_of_ble_eq_true rfl⟩) (fun r453 h454 => ?_)
            obtain rfl : r453 = nI (pm_tk (S 4 k)) := h454.trans (pq_of1 (by omega))
            have := pm_tk8 (S 4 k)
            refine lv_istore (lv' := [(7, .int (nI (pm_tk (S 4 k)))), (0, .ref (L 0 0)), (1, .ref dd), (2, .int (nI (pm_bc S 1 30))), (3, .int (nI (pm_bc S 2 30 + pm_hm S 2 30))), (4, .int (nI (pm_bc S 0 30))), (5, .int (nI (S 10 0))), (6, .int (nI k))]) hx hb dL_isRound_49 hl (by decide) rfl (fun ls hl => ?_)
            refine lv_aload_n hx hb dL_isRound_51 rfl (lv_at hl 1 rfl) ?_
            refine lv_iload hx hb dL_isRound_52 (lv_at hl 7 rfl) ?_
            refine lv_iconst (v := nI 2) hx hb dL_isRound_54 (by decide) ?_
            have hPc : va_P D vwCl (pm_cl y L S Bs pi kn Gs sv U) H := pq_cut hP
            refine vp_callSi (W.runV (As := [.int (nI k), .int (nI 2)]) (rest := []) ⟨hx, hb, hml, hown, hts⟩ (k_X3_of l D y L S Bs pi kn Gs sv U Bs Gs (nI k) (nI 2) hI.1) (cwV 2 hts gL_isRound_X3_of rfl rfl rfl hd_X3_of ⟨Nat.le_of_ble_eq_true rfl, Nat.le_of_ble_eq_true rfl⟩) ⟨pm_ro_blind, va_recv hK hPc (ci := 3) (q0 := 0) rfl rfl, pm_ro_pre hPc hK⟩ rfl rfl hl.1 rfl (lv_room (Nat.le_of_ble_eq_true rfl)) dL_isRound_55 ⟨Nat.le_of_ble_eq_true rfl, Nat.le_of_ble_eq_true rfl⟩) (fun r455 h456 => ?_)
            obtain rfl : r455 = nI (pm_ck (S 4 k)) := h456.trans (pq_of2 (by omega))
            have := pm_ck8 (S 4 k)
            refine lv_istore (lv' := [(8, .int (nI (pm_ck (S 4 k)))), (7, .int (nI (pm_tk (S 4 k)))), (0, .ref (L 0 0)), (1, .ref dd), (2, .int (nI (pm_bc S 1 30))), (3, .int (nI (pm_bc S 2 30 + pm_hm S 2 30))), (4, .int (nI (pm_bc S 0 30))), (5, .int (nI (S 10 0))), (6, .int (nI k))]) hx hb dL_isRound_58 hl (by decide) rfl (fun ls hl => ?_)
            refine lv_aload_n hx hb dL_isRound_60 rfl (lv_at hl 2 rfl) ?_
            refine lv_iload hx hb dL_isRound_61 (lv_at hl 8 rfl) ?_
            refine lv_iconst (v := nI 0) hx hb dL_isRound_63 (by decide) ?_
            have hPc : va_P D vwCl (pm_cl y L S Bs pi kn Gs sv U) H := pq_cut hP
            refine vp_callSi (W.runV (As := [.int (nI k), .int (nI 0)]) (rest := []) ⟨hx, hb, hml, hown, hts⟩ (k_X3_of l D y L S Bs pi kn Gs sv U Bs Gs (nI k) (nI 0) hI.1) (cwV 2 hts gL_isRound_X3_of rfl rfl rfl hd_X3_of ⟨Nat.le_of_ble_eq_true rfl, Nat.le_of_ble_eq_true rfl⟩) ⟨pm_ro_blind, va_recv hK hPc (ci := 3) (q0 := 0) rfl rfl, pm_ro_pre hPc hK⟩ rfl rfl hl.1 rfl (lv_room (Nat.le_of_ble_eq_true rfl)) dL_isRound_64 ⟨Nat.le_of_ble_eq_true rfl, Nat.le_of_ble_eq_true rfl⟩) (fun r457 h458 => ?_)
            obtain rfl : r457 = nI 0 := h458.trans ((pq_of0 (by omega)).trans (congrArg nI h0))
            refine lv_if_ne (tgt := 78) hx hb dL_isRound_67 (by decide) (fun c459 => (c459 (by decide)).elim) (fun _ => ?_)
            refine lv_iload hx hb dL_isRound_70 (lv_at hl 1 rfl) ?_
            refine lv_iload hx hb dL_isRound_72 (lv_at hl 0 rfl) ?_
            refine kx_iadd hx hb dL_isRound_74 ?_
            refine kx_if_ne (tgt := 104) hx hb (by omega) dL_isRound_75 (by decide) (fun c460 => ?_) (fun c460 => by exfalso; omega)
            refine lv_iconst (v := nI 0) hx hb dL_isRound_104 (by decide) ?_
            refine lv_istore (lv' := [(9, .int (nI 0)), (8, .int (nI (pm_ck (S 4 k)))), (7, .int (nI (pm_tk (S 4 k)))), (0, .ref (L 0 0)), (1, .ref dd), (2, .int (nI (pm_bc S 1 30))), (3, .int (nI (pm_bc S 2 30 + pm_hm S 2 30))), (4, .int (nI (pm_bc S 0 30))), (5, .int (nI (S 10 0))), (6, .int (nI k))]) hx hb dL_isRound_105 hl (by decide) rfl (fun ls hl => ?_)
            refine lv_aload_n hx hb dL_isRound_107 rfl (lv_at hl 4 rfl) ?_
            refine lv_iload hx hb dL_isRound_108 (lv_at hl 9 rfl) ?_
            refine lv_bipush (v := nI 10) hx hb dL_isRound_110 (by decide) ?_
            refine lv_iload hx hb dL_isRound_112 (lv_at hl 2 rfl) ?_
            refine vp_callSi (W.runS (As := [.int (nI (pm_tk (S 4 k)))]) (rest := [.int (nI 10), .int (nI k), .ref dd]) ⟨hx, hb, hml, hown, hts⟩ (k_L_ones l (pm_tk (S 4 k)) (by omega)) (va_cwS 1 hts gL_isRound_L_ones rfl rfl rfl hd_L_ones ⟨Nat.le_of_ble_eq_true rfl, Nat.le_of_ble_eq_true rfl⟩) ⟨pm_no_blind, pm_no_pre⟩ rfl rfl hl.1 rfl (lv_room (Nat.le_of_ble_eq_true rfl)) dL_isRound_114 ⟨Nat.le_of_ble_eq_true rfl, Nat.le_of_ble_eq_true rfl⟩) (fun r461 h462 => ?_)
            obtain rfl : r461 = nI (pm_tc (S 4 k)) := h462
            have : pm_tc (S 4 k) < 4 := pm_pc4 _
            refine kx_imul hx hb dL_isRound_117 ?_
            refine lv_aload_n hx hb dL_isRound_118 rfl (lv_at hl 3 rfl) ?_
            refine lv_iload hx hb dL_isRound_119 (lv_at hl 9 rfl) ?_
            have hPc : va_P D vwCl (pm_cl y L S Bs pi kn Gs sv U) H := pq_cut hP
            refine vp_callSi (W.runV (As := [.int (nI k)]) (rest := [.int (nI (10 * (pm_tc (S 4 k)))), .int (nI k), .ref dd]) ⟨hx, hb, hml, hown, hts⟩ (k_X3_why l D y L S Bs pi kn Gs sv U Bs Gs (nI k) hI.1) (cwV 1 hts gL_isRound_X3_why rfl rfl rfl hd_X3_why ⟨Nat.le_of_ble_eq_true rfl, Nat.le_of_ble_eq_true rfl⟩) ⟨pm_ro_blind, va_recv hK hPc (ci := 3) (q0 := 0) rfl rfl, pm_ro_pre hPc hK⟩ rfl rfl hl.1 rfl (lv_room (Nat.le_of_ble_eq_true rfl)) dL_isRound_121 ⟨Nat.le_of_ble_eq_true rfl, Nat.le_of_ble_eq_true rfl⟩) (fun r463 h464 => ?_)
            obtain rfl : r463 = nI 0 := h464.trans (hw)
            refine lv_if_ne (tgt := 131) hx hb dL_isRound_124 (by decide) (fun c465 => (c465 (by decide)).elim) (fun _ => ?_)
            refine lv_iconst (v := nI 1) hx hb dL_isRound_127 (by decide) ?_
            refine lv_goto (tgt := 138) hx hb dL_isRound_128 (by decide) ?_
            refine kx_iadd hx hb dL_isRound_138 ?_
            refine lv_bipush (v := nI 100) hx hb dL_isRound_139 (by decide) ?_
            refine lv_iload hx hb dL_isRound_141 (lv_at hl 0 rfl) ?_
            refine kx_imul hx hb dL_isRound_143 ?_
            refine lv_topi (fun x466 e467 => ?_)
            obtain rfl : x466 = nI 0 := e467.trans (rfl)
            refine kx_iadd hx hb dL_isRound_144 ?_
            refine lv_aload_n hx hb dL_isRound_145 rfl (lv_at hl 3 rfl) ?_
            refine lv_iload hx hb dL_isRound_146 (lv_at hl 9 rfl) ?_
            refine lv_iconst (v := nI 0) hx hb dL_isRound_148 (by decide) ?_
            have hPc : va_P D vwCl (pm_cl y L S Bs pi kn Gs sv U) H := pq_cut hP
            refine vp_callSi (W.runV (As := [.int (nI k), .int (nI 0)]) (rest := [.int (nI (((10 * (pm_tc (S 4 k))) + 1) + 0)), .int (nI k), .ref dd]) ⟨hx, hb, hml, hown, hts⟩ (k_X3_of l D y L S Bs pi kn Gs sv U Bs Gs (nI k) (nI 0) hI.1) (cwV 2 hts gL_isRound_X3_of rfl rfl rfl hd_X3_of ⟨Nat.le_of_ble_eq_true rfl, Nat.le_of_ble_eq_true rfl⟩) ⟨pm_ro_blind, va_recv hK hPc (ci := 3) (q0 := 0) rfl rfl, pm_ro_pre hPc hK⟩ rfl rfl hl.1 rfl (lv_room (Nat.le_of_ble_eq_true rfl)) dL_isRound_149 ⟨Nat.le_of_ble_eq_true rfl, Nat.le_of_ble_eq_true rfl⟩) (fun r468 h469 => ?_)
            obtain rfl : r468 = nI 0 := h469.trans ((pq_of0 (by omega)).trans (congrArg nI h0))
            refine lv_if_ne (tgt := 160) hx hb dL_isRound_152 (by decide) (fun c470 => (c470 (by decide)).elim) (fun _ => ?_)
            refine lv_ldc (v := nI 100000) hx hb hown (hts (.constant RL 49 (100000)) (List.mem_of_getElem? (i := 1) rfl)) dL_isRound_155 ?_
            refine lv_goto (tgt := 161) hx hb dL_isRound_157 (by decide) ?_
            refine kx_iadd hx hb dL_isRound_161 ?_
            refine lv_topi (fun x471 e472 => ?_)
            obtain rfl : x471 = nI (pq_d S k) := e472.trans (congrArg nI (by have h9 := pq_d_o1 h0 ha; omega))
            refine kx_iast (ws' := (dd, .inl ((y 0), 36, .inl (pq_f1 F S (k + 1)))) :: pm_cl y L S Bs pi kn Gs sv U) hx hb hK hP hD hS 0 0 rfl rfl (by omega) (by decide) (pq_f1_s F S k) rfl dL_isRound_162 (fun H locs hP hD hS => ?_)
            refine kx_iinc (a := k) (lv' := [(6, .int (nI (k + 1))), (9, .int (nI 0)), (8, .int (nI (pm_ck (S 4 k)))), (7, .int (nI (pm_tk (S 4 k)))), (0, .ref (L 0 0)), (1, .ref dd), (2, .int (nI (pm_bc S 1 30))), (3, .int (nI (pm_bc S 2 30 + pm_hm S 2 30))), (4, .int (nI (pm_bc S 0 30))), (5, .int (nI (S 10 0)))]) hx hb dL_isRound_163 hl (k := 9) rfl (by decide) rfl (fun ls hl => ?_)
            refine lv_goto (tgt := 35) hx hb dL_isRound_166 (by decide) ?_
            exact ih11 (k + 1) ls H locs hP hD hS (by omega) (by omega) (by exact lv_sub hl [4, 5, 6, 7, 8, 9, 0] rfl) 
          · skip
            refine lv_aload_n hx hb dL_isRound_42 rfl (lv_at hl 0 rfl) ?_
            refine lv_iload hx hb dL_isRound_43 (lv_at hl 6 rfl) ?_
            refine lv_iconst (v := nI 1) hx hb dL_isRound_45 (by decide) ?_
            have hPc : va_P D vwCl (pm_cl y L S Bs pi kn Gs sv U) H := pq_cut hP
            refine vp_callSi (W.runV (As := [.int (nI k), .int (nI 1)]) (rest := []) ⟨hx, hb, hml, hown, hts⟩ (k_X3_of l D y L S Bs pi kn Gs sv U Bs Gs (nI k) (nI 1) hI.1) (cwV 2 hts gL_isRound_X3_of rfl rfl rfl hd_X3_of ⟨Nat.le_of_ble_eq_true rfl, Nat.le_of_ble_eq_true rfl⟩) ⟨pm_ro_blind, va_recv hK hPc (ci := 3) (q0 := 0) rfl rfl, pm_ro_pre hPc hK⟩ rfl rfl hl.1 rfl (lv_room (Nat.le_of_ble_eq_true rfl)) dL_isRound_46 ⟨Nat.le_of_ble_eq_true rfl, Nat.le_of_ble_eq_true rfl⟩) (fun r473 h474 => ?_)
            obtain rfl : r473 = nI (pm_tk (S 4 k)) := h474.trans (pq_of1 (by omega))
            have := pm_tk8 (S 4 k)
            refine lv_istore (lv' := [(7, .int (nI (pm_tk (S 4 k)))), (0, .ref (L 0 0)), (1, .ref dd), (2, .int (nI (pm_bc S 1 30))), (3, .int (nI (pm_bc S 2 30 + pm_hm S 2 30))), (4, .int (nI (pm_bc S 0 30))), (5, .int (nI (S 10 0))), (6, .int (nI k))]) hx hb dL_isRound_49 hl (by decide) rfl (fun ls hl => ?_)
            refine lv_aload_n hx hb dL_isRound_51 rfl (lv_at hl 1 rfl) ?_
            refine lv_iload hx hb dL_isRound_52 (lv_at hl 7 rfl) ?_
            refine lv_iconst (v := nI 2) hx hb dL_isRound_54 (by decide) ?_
            have hPc : va_P D vwCl (pm_cl y L S Bs pi kn Gs sv U) H := pq_cut hP
            refine vp_callSi (W.runV (As := [.int (nI k), .int (nI 2)]) (rest := []) ⟨hx, hb, hml, hown, hts⟩ (k_X3_of l D y L S Bs pi kn Gs sv U Bs Gs (nI k) (nI 2) hI.1) (cwV 2 hts gL_isRound_X3_of rfl rfl rfl hd_X3_of ⟨Nat.le_of_ble_eq_true rfl, Nat.le_of_ble_eq_true rfl⟩) ⟨pm_ro_blind, va_recv hK hPc (ci := 3) (q0 := 0) rfl rfl, pm_ro_pre hPc hK⟩ rfl rfl hl.1 rfl (lv_room (Nat.le_of_ble_eq_true rfl)) dL_isRound_55 ⟨Nat.le_of_ble_eq_true rfl, Nat.le_of_ble_eq_true rfl⟩) (fun r475 h476 => ?_)
            obtain rfl : r475 = nI (pm_ck (S 4 k)) := h476.trans (pq_of2 (by omega))
            have := pm_ck8 (S 4 k)
            refine lv_istore (lv' := [(8, .int (nI (pm_ck (S 4 k)))), (7, .int (nI (pm_tk (S 4 k)))), (0, .ref (L 0 0)), (1, .ref dd), (2, .int (nI (pm_bc S 1 30))), (3, .int (nI (pm_bc S 2 30 + pm_hm S 2 30))), (4, .int (nI (pm_bc S 0 30))), (5, .int (nI (S 10 0))), (6, .int (nI k))]) hx hb dL_isRound_58 hl (by decide) rfl (fun ls hl => ?_)
            refine lv_aload_n hx hb dL_isRound_60 rfl (lv_at hl 2 rfl) ?_
            refine lv_iload hx hb dL_isRound_61 (lv_at hl 8 rfl) ?_
            refine lv_iconst (v := nI 0) hx hb dL_isRound_63 (by decide) ?_
            have hPc : va_P D vwCl (pm_cl y L S Bs pi kn Gs sv U) H := pq_cut hP
            refine vp_callSi (W.runV (As := [.int (nI k), .int (nI 0)]) (rest := []) ⟨hx, hb, hml, hown, hts⟩ (k_X3_of l D y L S Bs pi kn Gs sv U Bs Gs (nI k) (nI 0) hI.1) (cwV 2 hts gL_isRound_X3_of rfl rfl rfl hd_X3_of ⟨Nat.le_of_ble_eq_true rfl, Nat.le_of_ble_eq_true rfl⟩) ⟨pm_ro_blind, va_recv hK hPc (ci := 3) (q0 := 0) rfl rfl, pm_ro_pre hPc hK⟩ rfl rfl hl.1 rfl (lv_room (Nat.le_of_ble_eq_true rfl)) dL_isRound_64 ⟨Nat.le_of_ble_eq_true rfl, Nat.le_of_ble_eq_true rfl⟩) (fun r477 h478 => ?_)
            obtain rfl : r477 = nI 0 := h478.trans ((pq_of0 (by omega)).trans (congrArg nI h0))
            refine lv_if_ne (tgt := 78) hx hb dL_isRound_67 (by decide) (fun c479 => (c479 (by decide)).elim) (fun _ => ?_)
            refine lv_iload hx hb dL_isRound_70 (lv_at hl 1 rfl) ?_
            refine lv_iload hx hb dL_isRound_72 (lv_at hl 0 rfl) ?_
            refine kx_iadd hx hb dL_isRound_74 ?_
            refine kx_if_ne (tgt := 104) hx hb (by omega) dL_isRound_75 (by decide) (fun c480 => ?_) (fun c480 => by exfalso; omega)
            refine lv_iconst (v := nI 0) hx hb dL_isRound_104 (by decide) ?_
            refine lv_istore (lv' := [(9, .int (nI 0)), (8, .int (nI (pm_ck (S 4 k)))), (7, .int (nI (pm_tk (S 4 k)))), (0, .ref (L 0 0)), (1, .ref dd), (2, .int (nI (pm_bc S 1 30))), (3, .int (nI (pm_bc S 2 30 + pm_hm S 2 30))), (4, .int (nI (pm_bc S 0 30))), (5, .int (nI (S 10 0))), (6, .int (nI k))]) hx hb dL_isRound_105 hl (by decide) rfl (fun ls hl => ?_)
            refine lv_aload_n hx hb dL_isRound_107 rfl (lv_at hl 4 rfl) ?_
            refine lv_iload hx hb dL_isRound_108 (lv_at hl 9 rfl) ?_
            refine lv_bipush (v := nI 10) hx hb dL_isRound_110 (by decide) ?_
            refine lv_iload hx hb dL_isRound_112 (lv_at hl 2 rfl) ?_
            refine vp_callSi (W.runS (As := [.int (nI (pm_tk (S 4 k)))]) (rest := [.int (nI 10), .int (nI k), .ref dd]) ⟨hx, hb, hml, hown, hts⟩ (k_L_ones l (pm_tk (S 4 k)) (by omega)) (va_cwS 1 hts gL_isRound_L_ones rfl rfl rfl hd_L_ones ⟨Nat.le_of_ble_eq_true rfl, Nat.le_of_ble_eq_true rfl⟩) ⟨pm_no_blind, pm_no_pre⟩ rfl rfl hl.1 rfl (lv_room (Nat.le_of_ble_eq_true rfl)) dL_isRound_114 ⟨Nat.le_of_ble_eq_true rfl, Nat.le_of_ble_eq_true rfl⟩) (fun r481 h482 => ?_)
            obtain rfl : r481 = nI (pm_tc (S 4 k)) := h482
            have : pm_tc (S 4 k) < 4 := pm_pc4 _
            refine kx_imul hx hb dL_isRound_117 ?_
            refine lv_aload_n hx hb dL_isRound_118 rfl (lv_at hl 3 rfl) ?_
            refine lv_iload hx hb dL_isRound_119 (lv_at hl 9 rfl) ?_
            have hPc : va_P D vwCl (pm_cl y L S Bs pi kn Gs sv U) H := pq_cut hP
            refine vp_callSi (W.runV (As := [.int (nI k)]) (rest := [.int (nI (10 * (pm_tc (S 4 k)))), .int (nI k), .ref dd]) ⟨hx, hb, hml, hown, hts⟩ (k_X3_why l D y L S Bs pi kn Gs sv U Bs Gs (nI k) hI.1) (cwV 1 hts gL_isRound_X3_why rfl rfl rfl hd_X3_why ⟨Nat.le_of_ble_eq_true rfl, Nat.le_of_ble_eq_true rfl⟩) ⟨pm_ro_blind, va_recv hK hPc (ci := 3) (q0 := 0) rfl rfl, pm_ro_pre hPc hK⟩ rfl rfl hl.1 rfl (lv_room (Nat.le_of_ble_eq_true rfl)) dL_isRound_121 ⟨Nat.le_of_ble_eq_true rfl, Nat.le_of_ble_eq_true rfl⟩) (fun r483 h484 => ?_)
            obtain rfl : r483 = nI 3 := h484.trans (hw)
            refine lv_if_ne (tgt := 131) hx hb dL_isRound_124 (by decide) (fun _ => ?_) (fun c485 => absurd c485 (by decide))
            refine lv_aload_n hx hb dL_isRound_131 rfl (lv_at hl 3 rfl) ?_
            refine lv_iload hx hb dL_isRound_132 (lv_at hl 9 rfl) ?_
            refine lv_iconst (v := nI 0) hx hb dL_isRound_134 (by decide) ?_
            have hPc : va_P D vwCl (pm_cl y L S Bs pi kn Gs sv U) H := pq_cut hP
            refine vp_callSi (W.runV (As := [.int (nI k), .int (nI 0)]) (rest := [.int (nI (10 * (pm_tc (S 4 k)))), .int (nI k), .ref dd]) ⟨hx, hb, hml, hown, hts⟩ (k_X3_of l D y L S Bs pi kn Gs sv U Bs Gs (nI k) (nI 0) hI.1) (cwV 2 hts gL_isRound_X3_of rfl rfl rfl hd_X3_of ⟨Nat.le_of_ble_eq_true rfl, Nat.le_of_ble_eq_true rfl⟩) ⟨pm_ro_blind, va_recv hK hPc (ci := 3) (q0 := 0) rfl rfl, pm_ro_pre hPc hK⟩ rfl rfl hl.1 rfl (lv_room (Nat.le_of_ble_eq_true rfl)) dL_isRound_135 ⟨Nat.le_of_ble_eq_true rfl, Nat.le_of_ble_eq_true rfl⟩) (fun r486 h487 => ?_)
            obtain rfl : r486 = nI 0 := h487.trans ((pq_of0 (by omega)).trans (congrArg nI h0))
            refine kx_iadd hx hb dL_isRound_138 ?_
            refine lv_bipush (v := nI 100) hx hb dL_isRound_139 (by decide) ?_
            refine lv_iload hx hb dL_isRound_141 (lv_at hl 0 rfl) ?_
            refine kx_imul hx hb dL_isRound_143 ?_
            refine lv_topi (fun x488 e489 => ?_)
            obtain rfl : x488 = nI 0 := e489.trans (rfl)
            refine kx_iadd hx hb dL_isRound_144 ?_
            refine lv_aload_n hx hb dL_isRound_145 rfl (lv_at hl 3 rfl) ?_
            refine lv_iload hx hb dL_isRound_146 (lv_at hl 9 rfl) ?_
            refine lv_iconst (v := nI 0) hx hb dL_isRound_148 (by decide) ?_
            have hPc : va_P D vwCl (pm_cl y L S Bs pi kn Gs sv U) H := pq_cut hP
            refine vp_callSi (W.runV (As := [.int (nI k), .int (nI 0)]) (rest := [.int (nI (((10 * (pm_tc (S 4 k))) + 0) + 0)), .int (nI k), .ref dd]) ⟨hx, hb, hml, hown, hts⟩ (k_X3_of l D y L S Bs pi kn Gs sv U Bs Gs (nI k) (nI 0) hI.1) (cwV 2 hts gL_isRound_X3_of rfl rfl rfl hd_X3_of ⟨Nat.le_of_ble_eq_true rfl, Nat.le_of_ble_eq_true rfl⟩) ⟨pm_ro_blind, va_recv hK hPc (ci := 3) (q0 := 0) rfl rfl, pm_ro_pre hPc hK⟩ rfl rfl hl.1 rfl (lv_room (Nat.le_of_ble_eq_true rfl)) dL_isRound_149 ⟨Nat.le_of_ble_eq_true rfl, Nat.le_of_ble_eq_true rfl⟩) (fun r490 h491 => ?_)
            obtain rfl : r490 = nI 0 := h491.trans ((pq_of0 (by omega)).trans (congrArg nI h0))
            refine lv_if_ne (tgt := 160) hx hb dL_isRound_152 (by decide) (fun c492 => (c492 (by decide)).elim) (fun _ => ?_)
            refine lv_ldc (v := nI 100000) hx hb hown (hts (.constant RL 49 (100000)) (List.mem_of_getElem? (i := 1) rfl)) dL_isRound_155 ?_
            refine lv_goto (tgt := 161) hx hb dL_isRound_157 (by decide) ?_
            refine kx_iadd hx hb dL_isRound_161 ?_
            refine lv_topi (fun x493 e494 => ?_)
            obtain rfl : x493 = nI (pq_d S k) := e494.trans (congrArg nI (by have h9 := pq_d_o0 h0 (by omega); omega))
            refine kx_iast (ws' := (dd, .inl ((y 0), 36, .inl (pq_f1 F S (k + 1)))) :: pm_cl y L S Bs pi kn Gs sv U) hx hb hK hP hD hS 0 0 rfl rfl (by omega) (by decide) (pq_f1_s F S k) rfl dL_isRound_162 (fun H locs hP hD hS => ?_)
            refine kx_iinc (a := k) (lv' := [(6, .int (nI (k + 1))), (9, .int (nI 0)), (8, .int (nI (pm_ck (S 4 k)))), (7, .int (nI (pm_tk (S 4 k)))), (0, .ref (L 0 0)), (1, .ref dd), (2, .int (nI (pm_bc S 1 30))), (3, .int (nI (pm_bc S 2 30 + pm_hm S 2 30))), (4, .int (nI (pm_bc S 0 30))), (5, .int (nI (S 10 0)))]) hx hb dL_isRound_163 hl (k := 9) rfl (by decide) rfl (fun ls hl => ?_)
            refine lv_goto (tgt := 35) hx hb dL_isRound_166 (by decide) ?_
            exact ih11 (k + 1) ls H locs hP hD hS (by omega) (by omega) (by exact lv_sub hl [4, 5, 6, 7, 8, 9, 0] rfl) 
          · skip
            refine lv_aload_n hx hb dL_isRound_42 rfl (lv_at hl 0 rfl) ?_
            refine lv_iload hx hb dL_isRound_43 (lv_at hl 6 rfl) ?_
            refine lv_iconst (v := nI 1) hx hb dL_isRound_45 (by decide) ?_
            have hPc : va_P D vwCl (pm_cl y L S Bs pi kn Gs sv U) H := pq_cut hP
            refine vp_callSi (W.runV (As := [.int (nI k), .int (nI 1)]) (rest := []) ⟨hx, hb, hml, hown, hts⟩ (k_X3_of l D y L S Bs pi kn Gs sv U Bs Gs (nI k) (nI 1) hI.1) (cwV 2 hts gL_isRound_X3_of rfl rfl rfl hd_X3_of ⟨Nat.le_of_ble_eq_true rfl, Nat.le_of_ble_eq_true rfl⟩) ⟨pm_ro_blind, va_recv hK hPc (ci := 3) (q0 := 0) rfl rfl, pm_ro_pre hPc hK⟩ rfl rfl hl.1 rfl (lv_room (Nat.le_of_ble_eq_true rfl)) dL_isRound_46 ⟨Nat.le_of_ble_eq_true rfl, Nat.le_of_ble_eq_true rfl⟩) (fun r495 h496 => ?_)
            obtain rfl : r495 = nI (pm_tk (S 4 k)) := h496.trans (pq_of1 (by omega))
            have := pm_tk8 (S 4 k)
            refine lv_istore (lv' := [(7, .int (nI (pm_tk (S 4 k)))), (0, .ref (L 0 0)), (1, .ref dd), (2, .int (nI (pm_bc S 1 30))), (3, .int (nI (pm_bc S 2 30 + pm_hm S 2 30))), (4, .int (nI (pm_bc S 0 30))), (5, .int (nI (S 10 0))), (6, .int (nI k))]) hx hb dL_isRound_49 hl (by decide) rfl (fun ls hl => ?_)
            refine lv_aload_n hx hb dL_isRound_51 rfl (lv_at hl 1 rfl) ?_
            refine lv_iload hx hb dL_isRound_52 (lv_at hl 7 rfl) ?_
            refine lv_iconst (v := nI 2) hx hb dL_isRound_54 (by decide) ?_
            have hPc : va_P D vwCl (pm_cl y L S Bs pi kn Gs sv U) H := pq_cut hP
            refine vp_callSi (W.runV (As := [.int (nI k), .int (nI 2)]) (rest := []) ⟨hx, hb, hml, hown, hts⟩ (k_X3_of l D y L S Bs pi kn Gs sv U Bs Gs (nI k) (nI 2) hI.1) (cwV 2 hts gL_isRound_X3_of rfl rfl rfl hd_X3_of ⟨Nat.le_of_ble_eq_true rfl, Nat.le_of_ble_eq_true rfl⟩) ⟨pm_ro_blind, va_recv hK hPc (ci := 3) (q0 := 0) rfl rfl, pm_ro_pre hPc hK⟩ rfl rfl hl.1 rfl (lv_room (Nat.le_of_ble_eq_true rfl)) dL_isRound_55 ⟨Nat.le_of_ble_eq_true rfl, Nat.le_of_ble_eq_true rfl⟩) (fun r497 h498 => ?_)
            obtain rfl : r497 = nI (pm_ck (S 4 k)) := h498.trans (pq_of2 (by omega))
            have := pm_ck8 (S 4 k)
            refine lv_istore (lv' := [(8, .int (nI (pm_ck (S 4 k)))), (7, .int (nI (pm_tk (S 4 k)))), (0, .ref (L 0 0)), (1, .ref dd), (2, .int (nI (pm_bc S 1 30))), (3, .int (nI (pm_bc S 2 30 + pm_hm S 2 30))), (4, .int (nI (pm_bc S 0 30))), (5, .int (nI (S 10 0))), (6, .int (nI k))]) hx hb dL_isRound_58 hl (by decide) rfl (fun ls hl => ?_)
            refine lv_aload_n hx hb dL_isRound_60 rfl (lv_at hl 2 rfl) ?_
            refine lv_iload hx hb dL_isRound_61 (lv_at hl 8 rfl) ?_
            refine lv_iconst (v := nI 0) hx hb dL_isRound_63 (by decide) ?_
            have hPc : va_P D vwCl (pm_cl y L S Bs pi kn Gs sv U) H := pq_cut hP
            refine vp_callSi (W.runV (As := [.int (nI k), .int (nI 0)]) (rest := []) ⟨hx, hb, hml, hown, hts⟩ (k_X3_of l D y L S Bs pi kn Gs sv U Bs Gs (nI k) (nI 0) hI.1) (cwV 2 hts gL_isRound_X3_of rfl rfl rfl hd_X3_of ⟨Nat.le_of_ble_eq_true rfl, Nat.le_of_ble_eq_true rfl⟩) ⟨pm_ro_blind, va_recv hK hPc (ci := 3) (q0 := 0) rfl rfl, pm_ro_pre hPc hK⟩ rfl rfl hl.1 rfl (lv_room (Nat.le_of_ble_eq_true rfl)) dL_isRound_64 ⟨Nat.le_of_ble_eq_true rfl, Nat.le_of_ble_eq_true rfl⟩) (fun r499 h500 => ?_)
            obtain rfl : r499 = nI 0 := h500.trans ((pq_of0 (by omega)).trans (congrArg nI h0))
            refine lv_if_ne (tgt := 78) hx hb dL_isRound_67 (by decide) (fun c501 => (c501 (by decide)).elim) (fun _ => ?_)
            refine lv_iload hx hb dL_isRound_70 (lv_at hl 1 rfl) ?_
            refine lv_iload hx hb dL_isRound_72 (lv_at hl 0 rfl) ?_
            refine kx_iadd hx hb dL_isRound_74 ?_
            refine kx_if_ne (tgt := 104) hx hb (by omega) dL_isRound_75 (by decide) (fun c502 => by exfalso; omega) (fun c502 => ?_)
            refine lv_aload_n hx hb dL_isRound_78 rfl (lv_at hl 2 rfl) ?_
            refine lv_iload hx hb dL_isRound_79 (lv_at hl 8 rfl) ?_
            refine lv_iconst (v := nI 3) hx hb dL_isRound_81 (by decide) ?_
            have hPc : va_P D vwCl (pm_cl y L S Bs pi kn Gs sv U) H := pq_cut hP
            refine vp_callSi (W.runV (As := [.int (nI k), .int (nI 3)]) (rest := []) ⟨hx, hb, hml, hown, hts⟩ (k_X3_of l D y L S Bs pi kn Gs sv U Bs Gs (nI k) (nI 3) hI.1) (cwV 2 hts gL_isRound_X3_of rfl rfl rfl hd_X3_of ⟨Nat.le_of_ble_eq_true rfl, Nat.le_of_ble_eq_true rfl⟩) ⟨pm_ro_blind, va_recv hK hPc (ci := 3) (q0 := 0) rfl rfl, pm_ro_pre hPc hK⟩ rfl rfl hl.1 rfl (lv_room (Nat.le_of_ble_eq_true rfl)) dL_isRound_82 ⟨Nat.le_of_ble_eq_true rfl, Nat.le_of_ble_eq_true rfl⟩) (fun r503 h504 => ?_)
            obtain rfl : r503 = nI (S 1 k) := h504.trans (pq_of3 (by omega))
            have := hI.1.dull k (by omega)
            have := hI.1.rnd
            refine lv_aload_n hx hb dL_isRound_85 rfl (lv_at hl 2 rfl) ?_
            refine lv_iload hx hb dL_isRound_86 (lv_at hl 8 rfl) ?_
            refine lv_iconst (v := nI 0) hx hb dL_isRound_88 (by decide) ?_
            have hPc : va_P D vwCl (pm_cl y L S Bs pi kn Gs sv U) H := pq_cut hP
            refine vp_callSi (W.runV (As := [.int (nI k), .int (nI 0)]) (rest := [.int (nI (S 1 k))]) ⟨hx, hb, hml, hown, hts⟩ (k_X3_of l D y L S Bs pi kn Gs sv U Bs Gs (nI k) (nI 0) hI.1) (cwV 2 hts gL_isRound_X3_of rfl rfl rfl hd_X3_of ⟨Nat.le_of_ble_eq_true rfl, Nat.le_of_ble_eq_true rfl⟩) ⟨pm_ro_blind, va_recv hK hPc (ci := 3) (q0 := 0) rfl rfl, pm_ro_pre hPc hK⟩ rfl rfl hl.1 rfl (lv_room (Nat.le_of_ble_eq_true rfl)) dL_isRound_89 ⟨Nat.le_of_ble_eq_true rfl, Nat.le_of_ble_eq_true rfl⟩) (fun r505 h506 => ?_)
            obtain rfl : r505 = nI 0 := h506.trans ((pq_of0 (by omega)).trans (congrArg nI h0))
            refine lv_if_ne (tgt := 99) hx hb dL_isRound_92 (by decide) (fun c507 => (c507 (by decide)).elim) (fun _ => ?_)
            refine lv_iconst (v := nI 1) hx hb dL_isRound_95 (by decide) ?_
            refine lv_goto (tgt := 100) hx hb dL_isRound_96 (by decide) ?_
            refine kx_iadd hx hb dL_isRound_100 ?_
            refine lv_goto (tgt := 105) hx hb dL_isRound_101 (by decide) ?_
            refine lv_istore (lv' := [(9, .int (nI ((S 1 k) + 1))), (8, .int (nI (pm_ck (S 4 k)))), (7, .int (nI (pm_tk (S 4 k)))), (0, .ref (L 0 0)), (1, .ref dd), (2, .int (nI (pm_bc S 1 30))), (3, .int (nI (pm_bc S 2 30 + pm_hm S 2 30))), (4, .int (nI (pm_bc S 0 30))), (5, .int (nI (S 10 0))), (6, .int (nI k))]) hx hb dL_isRound_105 hl (by decide) rfl (fun ls hl => ?_)
            refine lv_aload_n hx hb dL_isRound_107 rfl (lv_at hl 4 rfl) ?_
            refine lv_iload hx hb dL_isRound_108 (lv_at hl 9 rfl) ?_
            refine lv_bipush (v := nI 10) hx hb dL_isRound_110 (by decide) ?_
            refine lv_iload hx hb dL_isRound_112 (lv_at hl 2 rfl) ?_
            refine vp_callSi (W.runS (As := [.int (nI (pm_tk (S 4 k)))]) (rest := [.int (nI 10), .int (nI k), .ref dd]) ⟨hx, hb, hml, hown, hts⟩ (k_L_ones l (pm_tk (S 4 k)) (by omega)) (va_cwS 1 hts gL_isRound_L_ones rfl rfl rfl hd_L_ones ⟨Nat.le_of_ble_eq_true rfl, Nat.le_of_ble_eq_true rfl⟩) ⟨pm_no_blind, pm_no_pre⟩ rfl rfl hl.1 rfl (lv_room (Nat.le_of_ble_eq_true rfl)) dL_isRound_114 ⟨Nat.le_of_ble_eq_true rfl, Nat.le_of_ble_eq_true rfl⟩) (fun r508 h509 => ?_)
            obtain rfl : r508 = nI (pm_tc (S 4 k)) := h509
            have : pm_tc (S 4 k) < 4 := pm_pc4 _
            refine kx_imul hx hb dL_isRound_117 ?_
            refine lv_aload_n hx hb dL_isRound_118 rfl (lv_at hl 3 rfl) ?_
            refine lv_iload hx hb dL_isRound_119 (lv_at hl 9 rfl) ?_
            have hPc : va_P D vwCl (pm_cl y L S Bs pi kn Gs sv U) H := pq_cut hP
            refine vp_callSi (W.runV (As := [.int (nI k)]) (rest := [.int (nI (10 * (pm_tc (S 4 k)))), .int (nI k), .ref dd]) ⟨hx, hb, hml, hown, hts⟩ (k_X3_why l D y L S Bs pi kn Gs sv U Bs Gs (nI k) hI.1) (cwV 1 hts gL_isRound_X3_why rfl rfl rfl hd_X3_why ⟨Nat.le_of_ble_eq_true rfl, Nat.le_of_ble_eq_true rfl⟩) ⟨pm_ro_blind, va_recv hK hPc (ci := 3) (q0 := 0) rfl rfl, pm_ro_pre hPc hK⟩ rfl rfl hl.1 rfl (lv_room (Nat.le_of_ble_eq_true rfl)) dL_isRound_121 ⟨Nat.le_of_ble_eq_true rfl, Nat.le_of_ble_eq_true rfl⟩) (fun r510 h511 => ?_)
            obtain rfl : r510 = nI 3 := h511.trans (hw)
            refine lv_if_ne (tgt := 131) hx hb dL_isRound_124 (by decide) (fun _ => ?_) (fun c512 => absurd c512 (by decide))
            refine lv_aload_n hx hb dL_isRound_131 rfl (lv_at hl 3 rfl) ?_
            refine lv_iload hx hb dL_isRound_132 (lv_at hl 9 rfl) ?_
            refine lv_iconst (v := nI 0) hx hb dL_isRound_134 (by decide) ?_
            have hPc : va_P D vwCl (pm_cl y L S Bs pi kn Gs sv U) H := pq_cut hP
            refine vp_callSi (W.runV (As := [.int (nI k), .int (nI 0)]) (rest := [.int (nI (10 * (pm_tc (S 4 k)))), .int (nI k), .ref dd]) ⟨hx, hb, hml, hown, hts⟩ (k_X3_of l D y L S Bs pi kn Gs sv U Bs Gs (nI k) (nI 0) hI.1) (cwV 2 hts gL_isRound_X3_of rfl rfl rfl hd_X3_of ⟨Nat.le_of_ble_eq_true rfl, Nat.le_of_ble_eq_true rfl⟩) ⟨pm_ro_blind, va_recv hK hPc (ci := 3) (q0 := 0) rfl rfl, pm_ro_pre hPc hK⟩ rfl rfl hl.1 rfl (lv_room (Nat.le_of_ble_eq_true rfl)) dL_isRound_135 ⟨Nat.le_of_ble_eq_true rfl, Nat.le_of_ble_eq_true rfl⟩) (fun r513 h514 => ?_)
            obtain rfl : r513 = nI 0 := h514.trans ((pq_of0 (by omega)).trans (congrArg nI h0))
            refine kx_iadd hx hb dL_isRound_138 ?_
            refine lv_bipush (v := nI 100) hx hb dL_isRound_139 (by decide) ?_
            refine lv_iload hx hb dL_isRound_141 (lv_at hl 0 rfl) ?_
            refine kx_imul hx hb dL_isRound_143 ?_
            refine kx_iadd hx hb dL_isRound_144 ?_
            refine lv_aload_n hx hb dL_isRound_145 rfl (lv_at hl 3 rfl) ?_
            refine lv_iload hx hb dL_isRound_146 (lv_at hl 9 rfl) ?_
            refine lv_iconst (v := nI 0) hx hb dL_isRound_148 (by decide) ?_
            have hPc : va_P D vwCl (pm_cl y L S Bs pi kn Gs sv U) H := pq_cut hP
            refine vp_callSi (W.runV (As := [.int (nI k), .int (nI 0)]) (rest := [.int (nI (((10 * (pm_tc (S 4 k))) + 0) + (100 * ((S 1 k) + 1)))), .int (nI k), .ref dd]) ⟨hx, hb, hml, hown, hts⟩ (k_X3_of l D y L S Bs pi kn Gs sv U Bs Gs (nI k) (nI 0) hI.1) (cwV 2 hts gL_isRound_X3_of rfl rfl rfl hd_X3_of ⟨Nat.le_of_ble_eq_true rfl, Nat.le_of_ble_eq_true rfl⟩) ⟨pm_ro_blind, va_recv hK hPc (ci := 3) (q0 := 0) rfl rfl, pm_ro_pre hPc hK⟩ rfl rfl hl.1 rfl (lv_room (Nat.le_of_ble_eq_true rfl)) dL_isRound_149 ⟨Nat.le_of_ble_eq_true rfl, Nat.le_of_ble_eq_true rfl⟩) (fun r515 h516 => ?_)
            obtain rfl : r515 = nI 0 := h516.trans ((pq_of0 (by omega)).trans (congrArg nI h0))
            refine lv_if_ne (tgt := 160) hx hb dL_isRound_152 (by decide) (fun c517 => (c517 (by decide)).elim) (fun _ => ?_)
            refine lv_ldc (v := nI 100000) hx hb hown (hts (.constant RL 49 (100000)) (List.mem_of_getElem? (i := 1) rfl)) dL_isRound_155 ?_
            refine lv_goto (tgt := 161) hx hb dL_isRound_157 (by decide) ?_
            refine kx_iadd hx hb dL_isRound_161 ?_
            refine lv_topi (fun x518 e519 => ?_)
            obtain rfl : x518 = nI (pq_d S k) := e519.trans (congrArg nI (by have h9 := pq_d_o0 h0 (by omega); omega))
            refine kx_iast (ws' := (dd, .inl ((y 0), 36, .inl (pq_f1 F S (k + 1)))) :: pm_cl y L S Bs pi kn Gs sv U) hx hb hK hP hD hS 0 0 rfl rfl (by omega) (by decide) (pq_f1_s F S k) rfl dL_isRound_162 (fun H locs hP hD hS => ?_)
            refine kx_iinc (a := k) (lv' := [(6, .int (nI (k + 1))), (9, .int (nI ((S 1 k) + 1))), (8, .int (nI (pm_ck (S 4 k)))), (7, .int (nI (pm_tk (S 4 k)))), (0, .ref (L 0 0)), (1, .ref dd), (2, .int (nI (pm_bc S 1 30))), (3, .int (nI (pm_bc S 2 30 + pm_hm S 2 30))), (4, .int (nI (pm_bc S 0 30))), (5, .int (nI (S 10 0)))]) hx hb dL_isRound_163 hl (k := 9) rfl (by decide) rfl (fun ls hl => ?_)
            refine lv_goto (tgt := 35) hx hb dL_isRound_166 (by decide) ?_
            exact ih11 (k + 1) ls H locs hP hD hS (by omega) (by omega) (by exact lv_sub hl [4, 5, 6, 7, 8, 9, 0] rfl) 
          · skip
            refine lv_aload_n hx hb dL_isRound_42 rfl (lv_at hl 0 rfl) ?_
            refine lv_iload hx hb dL_isRound_43 (lv_at hl 6 rfl) ?_
            refine lv_iconst (v := nI 1) hx hb dL_isRound_45 (by decide) ?_
            have hPc : va_P D vwCl (pm_cl y L S Bs pi kn Gs sv U) H := pq_cut hP
            refine vp_callSi (W.runV (As := [.int (nI k), .int (nI 1)]) (rest := []) ⟨hx, hb, hml, hown, hts⟩ (k_X3_of l D y L S Bs pi kn Gs sv U Bs Gs (nI k) (nI 1) hI.1) (cwV 2 hts gL_isRound_X3_of rfl rfl rfl hd_X3_of ⟨Nat.le_of_ble_eq_true rfl, Nat.le_of_ble_eq_true rfl⟩) ⟨pm_ro_blind, va_recv hK hPc (ci := 3) (q0 := 0) rfl rfl, pm_ro_pre hPc hK⟩ rfl rfl hl.1 rfl (lv_room (Nat.le_of_ble_eq_true rfl)) dL_isRound_46 ⟨Nat.le_of_ble_eq_true rfl, Nat.le_of_ble_eq_true rfl⟩) (fun r520 h521 => ?_)
            obtain rfl : r520 = nI (pm_tk (S 4 k)) := h521.trans (pq_of1 (by omega))
            have := pm_tk8 (S 4 k)
            refine lv_istore (lv' := [(7, .int (nI (pm_tk (S 4 k)))), (0, .ref (L 0 0)), (1, .ref dd), (2, .int (nI (pm_bc S 1 30))), (3, .int (nI (pm_bc S 2 30 + pm_hm S 2 30))), (4, .int (nI (pm_bc S 0 30))), (5, .int (nI (S 10 0))), (6, .int (nI k))]) hx hb dL_isRound_49 hl (by decide) rfl (fun ls hl => ?_)
            refine lv_aload_n hx hb dL_isRound_51 rfl (lv_at hl 1 rfl) ?_
            refine lv_iload hx hb dL_isRound_52 (lv_at hl 7 rfl) ?_
            refine lv_iconst (v := nI 2) hx hb dL_isRound_54 (by decide) ?_
            have hPc : va_P D vwCl (pm_cl y L S Bs pi kn Gs sv U) H := pq_cut hP
            refine vp_callSi (W.runV (As := [.int (nI k), .int (nI 2)]) (rest := []) ⟨hx, hb, hml, hown, hts⟩ (k_X3_of l D y L S Bs pi kn Gs sv U Bs Gs (nI k) (nI 2) hI.1) (cwV 2 hts gL_isRound_X3_of rfl rfl rfl hd_X3_of ⟨Nat.le_of_ble_eq_true rfl, Nat.le_of_ble_eq_true rfl⟩) ⟨pm_ro_blind, va_recv hK hPc (ci := 3) (q0 := 0) rfl rfl, pm_ro_pre hPc hK⟩ rfl rfl hl.1 rfl (lv_room (Nat.le_of_ble_eq_true rfl)) dL_isRound_55 ⟨Nat.le_of_ble_eq_true rfl, Nat.le_of_ble_eq_true rfl⟩) (fun r522 h523 => ?_)
            obtain rfl : r522 = nI (pm_ck (S 4 k)) := h523.trans (pq_of2 (by omega))
            have := pm_ck8 (S 4 k)
            refine lv_istore (lv' := [(8, .int (nI (pm_ck (S 4 k)))), (7, .int (nI (pm_tk (S 4 k)))), (0, .ref (L 0 0)), (1, .ref dd), (2, .int (nI (pm_bc S 1 30))), (3, .int (nI (pm_bc S 2 30 + pm_hm S 2 30))), (4, .int (nI (pm_bc S 0 30))), (5, .int (nI (S 10 0))), (6, .int (nI k))]) hx hb dL_isRound_58 hl (by decide) rfl (fun ls hl => ?_)
            refine lv_aload_n hx hb dL_isRound_60 rfl (lv_at hl 2 rfl) ?_
            refine lv_iload hx hb dL_isRound_61 (lv_at hl 8 rfl) ?_
            refine lv_iconst (v := nI 0) hx hb dL_isRound_63 (by decide) ?_
            have hPc : va_P D vwCl (pm_cl y L S Bs pi kn Gs sv U) H := pq_cut hP
            refine vp_callSi (W.runV (As := [.int (nI k), .int (nI 0)]) (rest := []) ⟨hx, hb, hml, hown, hts⟩ (k_X3_of l D y L S Bs pi kn Gs sv U Bs Gs (nI k) (nI 0) hI.1) (cwV 2 hts gL_isRound_X3_of rfl rfl rfl hd_X3_of ⟨Nat.le_of_ble_eq_true rfl, Nat.le_of_ble_eq_true rfl⟩) ⟨pm_ro_blind, va_recv hK hPc (ci := 3) (q0 := 0) rfl rfl, pm_ro_pre hPc hK⟩ rfl rfl hl.1 rfl (lv_room (Nat.le_of_ble_eq_true rfl)) dL_isRound_64 ⟨Nat.le_of_ble_eq_true rfl, Nat.le_of_ble_eq_true rfl⟩) (fun r524 h525 => ?_)
            obtain rfl : r524 = nI 0 := h525.trans ((pq_of0 (by omega)).trans (congrArg nI h0))
            refine lv_if_ne (tgt := 78) hx hb dL_isRound_67 (by decide) (fun c526 => (c526 (by decide)).elim) (fun _ => ?_)
            refine lv_iload hx hb dL_isRound_70 (lv_at hl 1 rfl) ?_
            refine lv_iload hx hb dL_isRound_72 (lv_at hl 0 rfl) ?_
            refine kx_iadd hx hb dL_isRound_74 ?_
            refine kx_if_ne (tgt := 104) hx hb (by omega) dL_isRound_75 (by decide) (fun c527 => by exfalso; omega) (fun c527 => ?_)
            refine lv_aload_n hx hb dL_isRound_78 rfl (lv_at hl 2 rfl) ?_
            refine lv_iload hx hb dL_isRound_79 (lv_at hl 8 rfl) ?_
            refine lv_iconst (v := nI 3) hx hb dL_isRound_81 (by decide) ?_
            have hPc : va_P D vwCl (pm_cl y L S Bs pi kn Gs sv U) H := pq_cut hP
            refine vp_callSi (W.runV (As := [.int (nI k), .int (nI 3)]) (rest := []) ⟨hx, hb, hml, hown, hts⟩ (k_X3_of l D y L S Bs pi kn Gs sv U Bs Gs (nI k) (nI 3) hI.1) (cwV 2 hts gL_isRound_X3_of rfl rfl rfl hd_X3_of ⟨Nat.le_of_ble_eq_true rfl, Nat.le_of_ble_eq_true rfl⟩) ⟨pm_ro_blind, va_recv hK hPc (ci := 3) (q0 := 0) rfl rfl, pm_ro_pre hPc hK⟩ rfl rfl hl.1 rfl (lv_room (Nat.le_of_ble_eq_true rfl)) dL_isRound_82 ⟨Nat.le_of_ble_eq_true rfl, Nat.le_of_ble_eq_true rfl⟩) (fun r528 h529 => ?_)
            obtain rfl : r528 = nI (S 1 k) := h529.trans (pq_of3 (by omega))
            have := hI.1.dull k (by omega)
            have := hI.1.rnd
            refine lv_aload_n hx hb dL_isRound_85 rfl (lv_at hl 2 rfl) ?_
            refine lv_iload hx hb dL_isRound_86 (lv_at hl 8 rfl) ?_
            refine lv_iconst (v := nI 0) hx hb dL_isRound_88 (by decide) ?_
            have hPc : va_P D vwCl (pm_cl y L S Bs pi kn Gs sv U) H := pq_cut hP
            refine vp_callSi (W.runV (As := [.int (nI k), .int (nI 0)]) (rest := [.int (nI (S 1 k))]) ⟨hx, hb, hml, hown, hts⟩ (k_X3_of l D y L S Bs pi kn Gs sv U Bs Gs (nI k) (nI 0) hI.1) (cwV 2 hts gL_isRound_X3_of rfl rfl rfl hd_X3_of ⟨Nat.le_of_ble_eq_true rfl, Nat.le_of_ble_eq_true rfl⟩) ⟨pm_ro_blind, va_recv hK hPc (ci := 3) (q0 := 0) rfl rfl, pm_ro_pre hPc hK⟩ rfl rfl hl.1 rfl (lv_room (Nat.le_of_ble_eq_true rfl)) dL_isRound_89 ⟨Nat.le_of_ble_eq_true rfl, Nat.le_of_ble_eq_true rfl⟩) (fun r530 h531 => ?_)
            obtain rfl : r530 = nI 0 := h531.trans ((pq_of0 (by omega)).trans (congrArg nI h0))
            refine lv_if_ne (tgt := 99) hx hb dL_isRound_92 (by decide) (fun c532 => (c532 (by decide)).elim) (fun _ => ?_)
            refine lv_iconst (v := nI 1) hx hb dL_isRound_95 (by decide) ?_
            refine lv_goto (tgt := 100) hx hb dL_isRound_96 (by decide) ?_
            refine kx_iadd hx hb dL_isRound_100 ?_
            refine lv_goto (tgt := 105) hx hb dL_isRound_101 (by decide) ?_
            refine lv_istore (lv' := [(9, .int (nI ((S 1 k) + 1))), (8, .int (nI (pm_ck (S 4 k)))), (7, .int (nI (pm_tk (S 4 k)))), (0, .ref (L 0 0)), (1, .ref dd), (2, .int (nI (pm_bc S 1 30))), (3, .int (nI (pm_bc S 2 30 + pm_hm S 2 30))), (4, .int (nI (pm_bc S 0 30))), (5, .int (nI (S 10 0))), (6, .int (nI k))]) hx hb dL_isRound_105 hl (by decide) rfl (fun ls hl => ?_)
            refine lv_aload_n hx hb dL_isRound_107 rfl (lv_at hl 4 rfl) ?_
            refine lv_iload hx hb dL_isRound_108 (lv_at hl 9 rfl) ?_
            refine lv_bipush (v := nI 10) hx hb dL_isRound_110 (by decide) ?_
            refine lv_iload hx hb dL_isRound_112 (lv_at hl 2 rfl) ?_
            refine vp_callSi (W.runS (As := [.int (nI (pm_tk (S 4 k)))]) (rest := [.int (nI 10), .int (nI k), .ref dd]) ⟨hx, hb, hml, hown, hts⟩ (k_L_ones l (pm_tk (S 4 k)) (by omega)) (va_cwS 1 hts gL_isRound_L_ones rfl rfl rfl hd_L_ones ⟨Nat.le_of_ble_eq_true rfl, Nat.le_of_ble_eq_true rfl⟩) ⟨pm_no_blind, pm_no_pre⟩ rfl rfl hl.1 rfl (lv_room (Nat.le_of_ble_eq_true rfl)) dL_isRound_114 ⟨Nat.le_of_ble_eq_true rfl, Nat.le_of_ble_eq_true rfl⟩) (fun r533 h534 => ?_)
            obtain rfl : r533 = nI (pm_tc (S 4 k)) := h534
            have : pm_tc (S 4 k) < 4 := pm_pc4 _
            refine kx_imul hx hb dL_isRound_117 ?_
            refine lv_aload_n hx hb dL_isRound_118 rfl (lv_at hl 3 rfl) ?_
            refine lv_iload hx hb dL_isRound_119 (lv_at hl 9 rfl) ?_
            have hPc : va_P D vwCl (pm_cl y L S Bs pi kn Gs sv U) H := pq_cut hP
            refine vp_callSi (W.runV (As := [.int (nI k)]) (rest := [.int (nI (10 * (pm_tc (S 4 k)))), .int (nI k), .ref dd]) ⟨hx, hb, hml, hown, hts⟩ (k_X3_why l D y L S Bs pi kn Gs sv U Bs Gs (nI k) hI.1) (cwV 1 hts gL_isRound_X3_why rfl rfl rfl hd_X3_why ⟨Nat.le_of_ble_eq_true rfl, Nat.le_of_ble_eq_true rfl⟩) ⟨pm_ro_blind, va_recv hK hPc (ci := 3) (q0 := 0) rfl rfl, pm_ro_pre hPc hK⟩ rfl rfl hl.1 rfl (lv_room (Nat.le_of_ble_eq_true rfl)) dL_isRound_121 ⟨Nat.le_of_ble_eq_true rfl, Nat.le_of_ble_eq_true rfl⟩) (fun r535 h536 => ?_)
            obtain rfl : r535 = nI 3 := h536.trans (hw)
            refine lv_if_ne (tgt := 131) hx hb dL_isRound_124 (by decide) (fun _ => ?_) (fun c537 => absurd c537 (by decide))
            refine lv_aload_n hx hb dL_isRound_131 rfl (lv_at hl 3 rfl) ?_
            refine lv_iload hx hb dL_isRound_132 (lv_at hl 9 rfl) ?_
            refine lv_iconst (v := nI 0) hx hb dL_isRound_134 (by decide) ?_
            have hPc : va_P D vwCl (pm_cl y L S Bs pi kn Gs sv U) H := pq_cut hP
            refine vp_callSi (W.runV (As := [.int (nI k), .int (nI 0)]) (rest := [.int (nI (10 * (pm_tc (S 4 k)))), .int (nI k), .ref dd]) ⟨hx, hb, hml, hown, hts⟩ (k_X3_of l D y L S Bs pi kn Gs sv U Bs Gs (nI k) (nI 0) hI.1) (cwV 2 hts gL_isRound_X3_of rfl rfl rfl hd_X3_of ⟨Nat.le_of_ble_eq_true rfl, Nat.le_of_ble_eq_true rfl⟩) ⟨pm_ro_blind, va_recv hK hPc (ci := 3) (q0 := 0) rfl rfl, pm_ro_pre hPc hK⟩ rfl rfl hl.1 rfl (lv_room (Nat.le_of_ble_eq_true rfl)) dL_isRound_135 ⟨Nat.le_of_ble_eq_true rfl, Nat.le_of_ble_eq_true rfl⟩) (fun r538 h539 => ?_)
            obtain rfl : r538 = nI 0 := h539.trans ((pq_of0 (by omega)).trans (congrArg nI h0))
            refine kx_iadd hx hb dL_isRound_138 ?_
            refine lv_bipush (v := nI 100) hx hb dL_isRound_139 (by decide) ?_
            refine lv_iload hx hb dL_isRound_141 (lv_at hl 0 rfl) ?_
            refine kx_imul hx hb dL_isRound_143 ?_
            refine kx_iadd hx hb dL_isRound_144 ?_
            refine lv_aload_n hx hb dL_isRound_145 rfl (lv_at hl 3 rfl) ?_
            refine lv_iload hx hb dL_isRound_146 (lv_at hl 9 rfl) ?_
            refine lv_iconst (v := nI 0) hx hb dL_isRound_148 (by decide) ?_
            have hPc : va_P D vwCl (pm_cl y L S Bs pi kn Gs sv U) H := pq_cut hP
            refine vp_callSi (W.runV (As := [.int (nI k), .int (nI 0)]) (rest := [.int (nI (((10 * (pm_tc (S 4 k))) + 0) + (100 * ((S 1 k) + 1)))), .int (nI k), .ref dd]) ⟨hx, hb, hml, hown, hts⟩ (k_X3_of l D y L S Bs pi kn Gs sv U Bs Gs (nI k) (nI 0) hI.1) (cwV 2 hts gL_isRound_X3_of rfl rfl rfl hd_X3_of ⟨Nat.le_of_ble_eq_true rfl, Nat.le_of_ble_eq_true rfl⟩) ⟨pm_ro_blind, va_recv hK hPc (ci := 3) (q0 := 0) rfl rfl, pm_ro_pre hPc hK⟩ rfl rfl hl.1 rfl (lv_room (Nat.le_of_ble_eq_true rfl)) dL_isRound_149 ⟨Nat.le_of_ble_eq_true rfl, Nat.le_of_ble_eq_true rfl⟩) (fun r540 h541 => ?_)
            obtain rfl : r540 = nI 0 := h541.trans ((pq_of0 (by omega)).trans (congrArg nI h0))
            refine lv_if_ne (tgt := 160) hx hb dL_isRound_152 (by decide) (fun c542 => (c542 (by decide)).elim) (fun _ => ?_)
            refine lv_ldc (v := nI 100000) hx hb hown (hts (.constant RL 49 (100000)) (List.mem_of_getElem? (i := 1) rfl)) dL_isRound_155 ?_
            refine lv_goto (tgt := 161) hx hb dL_isRound_157 (by decide) ?_
            refine kx_iadd hx hb dL_isRound_161 ?_
            refine lv_topi (fun x543 e544 => ?_)
            obtain rfl : x543 = nI (pq_d S k) := e544.trans (congrArg nI (by have h9 := pq_d_o0 h0 (by omega); omega))
            refine kx_iast (ws' := (dd, .inl ((y 0), 36, .inl (pq_f1 F S (k + 1)))) :: pm_cl y L S Bs pi kn Gs sv U) hx hb hK hP hD hS 0 0 rfl rfl (by omega) (by decide) (pq_f1_s F S k) rfl dL_isRound_162 (fun H locs hP hD hS => ?_)
            refine kx_iinc (a := k) (lv' := [(6, .int (nI (k + 1))), (9, .int (nI ((S 1 k) + 1))), (8, .int (nI (pm_ck (S 4 k)))), (7, .int (nI (pm_tk (S 4 k)))), (0, .ref (L 0 0)), (1, .ref dd), (2, .int (nI (pm_bc S 1 30))), (3, .int (nI (pm_bc S 2 30 + pm_hm S 2 30))), (4, .int (nI (pm_bc S 0 30))), (5, .int (nI (S 10 0)))]) hx hb dL_isRound_163 hl (k := 9) rfl (by decide) rfl (fun ls hl => ?_)
            refine lv_goto (tgt := 35) hx hb dL_isRound_166 (by decide) ?_
            exact ih11 (k + 1) ls H locs hP hD hS (by omega) (by omega) (by exact lv_sub hl [4, 5, 6, 7, 8, 9, 0] rfl) 
        · obtain ⟨hm4, htk, hck, hw⟩ := pq_shut hI hk h0
          refine lv_aload_n hx hb dL_isRound_42 rfl (lv_at hl 0 rfl) ?_
          refine lv_iload hx hb dL_isRound_43 (lv_at hl 6 rfl) ?_
          refine lv_iconst (v := nI 1) hx hb dL_isRound_45 (by decide) ?_
          have hPc : va_P D vwCl (pm_cl y L S Bs pi kn Gs sv U) H := pq_cut hP
          refine vp_callSi (W.runV (As := [.int (nI k), .int (nI 1)]) (rest := []) ⟨hx, hb, hml, hown, hts⟩ (k_X3_of l D y L S Bs pi kn Gs sv U Bs Gs (nI k) (nI 1) hI.1) (cwV 2 hts gL_isRound_X3_of rfl rfl rfl hd_X3_of ⟨Nat.le_of_ble_eq_true rfl, Nat.le_of_ble_eq_true rfl⟩) ⟨pm_ro_blind, va_recv hK hPc (ci := 3) (q0 := 0) rfl rfl, pm_ro_pre hPc hK⟩ rfl rfl hl.1 rfl (lv_room (Nat.le_of_ble_eq_true rfl)) dL_isRound_46 ⟨Nat.le_of_ble_eq_true rfl, Nat.le_of_ble_eq_true rfl⟩) (fun r545 h546 => ?_)
          obtain rfl : r545 = nI (pm_tk (S 4 k)) := h546.trans (pq_of1 (by omega))
          have := pm_tk8 (S 4 k)
          refine lv_istore (lv' := [(7, .int (nI (pm_tk (S 4 k)))), (0, .ref (L 0 0)), (1, .ref dd), (2, .int (nI (pm_bc S 1 30))), (3, .int (nI (pm_bc S 2 30 + pm_hm S 2 30))), (4, .int (nI (pm_bc S 0 30))), (5, .int (nI (S 10 0))), (6, .int (nI k))]) hx hb dL_isRound_49 hl (by decide) rfl (fun ls hl => ?_)
          refine lv_aload_n hx hb dL_isRound_51 rfl (lv_at hl 1 rfl) ?_
          refine lv_iload hx hb dL_isRound_52 (lv_at hl 7 rfl) ?_
          refine lv_iconst (v := nI 2) hx hb dL_isRound_54 (by decide) ?_
          have hPc : va_P D vwCl (pm_cl y L S Bs pi kn Gs sv U) H := pq_cut hP
          refine vp_callSi (W.runV (As := [.int (nI k), .int (nI 2)]) (rest := []) ⟨hx, hb, hml, hown, hts⟩ (k_X3_of l D y L S Bs pi kn Gs sv U Bs Gs (nI k) (nI 2) hI.1) (cwV 2 hts gL_isRound_X3_of rfl rfl rfl hd_X3_of ⟨Nat.le_of_ble_eq_true rfl, Nat.le_of_ble_eq_true rfl⟩) ⟨pm_ro_blind, va_recv hK hPc (ci := 3) (q0 := 0) rfl rfl, pm_ro_pre hPc hK⟩ rfl rfl hl.1 rfl (lv_room (Nat.le_of_ble_eq_true rfl)) dL_isRound_55 ⟨Nat.le_of_ble_eq_true rfl, Nat.le_of_ble_eq_true rfl⟩) (fun r547 h548 => ?_)
          obtain rfl : r547 = nI (pm_ck (S 4 k)) := h548.trans (pq_of2 (by omega))
          have := pm_ck8 (S 4 k)
          refine lv_istore (lv' := [(8, .int (nI (pm_ck (S 4 k)))), (7, .int (nI (pm_tk (S 4 k)))), (0, .ref (L 0 0)), (1, .ref dd), (2, .int (nI (pm_bc S 1 30))), (3, .int (nI (pm_bc S 2 30 + pm_hm S 2 30))), (4, .int (nI (pm_bc S 0 30))), (5, .int (nI (S 10 0))), (6, .int (nI k))]) hx hb dL_isRound_58 hl (by decide) rfl (fun ls hl => ?_)
          refine lv_aload_n hx hb dL_isRound_60 rfl (lv_at hl 2 rfl) ?_
          refine lv_iload hx hb dL_isRound_61 (lv_at hl 8 rfl) ?_
          refine lv_iconst (v := nI 0) hx hb dL_isRound_63 (by decide) ?_
          have hPc : va_P D vwCl (pm_cl y L S Bs pi kn Gs sv U) H := pq_cut hP
          refine vp_callSi (W.runV (As := [.int (nI k), .int (nI 0)]) (rest := []) ⟨hx, hb, hml, hown, hts⟩ (k_X3_of l D y L S Bs pi kn Gs sv U Bs Gs (nI k) (nI 0) hI.1) (cwV 2 hts gL_isRound_X3_of rfl rfl rfl hd_X3_of ⟨Nat.le_of_ble_eq_true rfl, Nat.le_of_ble_eq_true rfl⟩) ⟨pm_ro_blind, va_recv hK hPc (ci := 3) (q0 := 0) rfl rfl, pm_ro_pre hPc hK⟩ rfl rfl hl.1 rfl (lv_room (Nat.le_of_ble_eq_true rfl)) dL_isRound_64 ⟨Nat.le_of_ble_eq_true rfl, Nat.le_of_ble_eq_true rfl⟩) (fun r549 h550 => ?_)
          obtain rfl : r549 = nI (S 0 k) := h550.trans (pq_of0 (by omega))
          have := hI.1.how k (by omega)
          refine kx_if_ne (tgt := 78) hx hb (by omega) dL_isRound_67 (by decide) (fun c551 => ?_) (fun c551 => by exfalso; omega)
          refine lv_aload_n hx hb dL_isRound_78 rfl (lv_at hl 2 rfl) ?_
          refine lv_iload hx hb dL_isRound_79 (lv_at hl 8 rfl) ?_
          refine lv_iconst (v := nI 3) hx hb dL_isRound_81 (by decide) ?_
          have hPc : va_P D vwCl (pm_cl y L S Bs pi kn Gs sv U) H := pq_cut hP
          refine vp_callSi (W.runV (As := [.int (nI k), .int (nI 3)]) (rest := []) ⟨hx, hb, hml, hown, hts⟩ (k_X3_of l D y L S Bs pi kn Gs sv U Bs Gs (nI k) (nI 3) hI.1) (cwV 2 hts gL_isRound_X3_of rfl rfl rfl hd_X3_of ⟨Nat.le_of_ble_eq_true rfl, Nat.le_of_ble_eq_true rfl⟩) ⟨pm_ro_blind, va_recv hK hPc (ci := 3) (q0 := 0) rfl rfl, pm_ro_pre hPc hK⟩ rfl rfl hl.1 rfl (lv_room (Nat.le_of_ble_eq_true rfl)) dL_isRound_82 ⟨Nat.le_of_ble_eq_true rfl, Nat.le_of_ble_eq_true rfl⟩) (fun r552 h553 => ?_)
          obtain rfl : r552 = nI (S 1 k) := h553.trans (pq_of3 (by omega))
          have := hI.1.dull k (by omega)
          have := hI.1.rnd
          refine lv_aload_n hx hb dL_isRound_85 rfl (lv_at hl 2 rfl) ?_
          refine lv_iload hx hb dL_isRound_86 (lv_at hl 8 rfl) ?_
          refine lv_iconst (v := nI 0) hx hb dL_isRound_88 (by decide) ?_
          have hPc : va_P D vwCl (pm_cl y L S Bs pi kn Gs sv U) H := pq_cut hP
          refine vp_callSi (W.runV (As := [.int (nI k), .int (nI 0)]) (rest := [.int (nI (S 1 k))]) ⟨hx, hb, hml, hown, hts⟩ (k_X3_of l D y L S Bs pi kn Gs sv U Bs Gs (nI k) (nI 0) hI.1) (cwV 2 hts gL_isRound_X3_of rfl rfl rfl hd_X3_of ⟨Nat.le_of_ble_eq_true rfl, Nat.le_of_ble_eq_true rfl⟩) ⟨pm_ro_blind, va_recv hK hPc (ci := 3) (q0 := 0) rfl rfl, pm_ro_pre hPc hK⟩ rfl rfl hl.1 rfl (lv_room (Nat.le_of_ble_eq_true rfl)) dL_isRound_89 ⟨Nat.le_of_ble_eq_true rfl, Nat.le_of_ble_eq_true rfl⟩) (fun r554 h555 => ?_)
          obtain rfl : r554 = nI (S 0 k) := h555.trans (pq_of0 (by omega))
          have := hI.1.how k (by omega)
          refine kx_if_ne (tgt := 99) hx hb (by omega) dL_isRound_92 (by decide) (fun c556 => ?_) (fun c556 => by exfalso; omega)
          refine lv_iconst (v := nI 0) hx hb dL_isRound_99 (by decide) ?_
          refine kx_iadd hx hb dL_isRound_100 ?_
          refine lv_goto (tgt := 105) hx hb dL_isRound_101 (by decide) ?_
          refine lv_istore (lv' := [(9, .int (nI ((S 1 k) + 0))), (8, .int (nI (pm_ck (S 4 k)))), (7, .int (nI (pm_tk (S 4 k)))), (0, .ref (L 0 0)), (1, .ref dd), (2, .int (nI (pm_bc S 1 30))), (3, .int (nI (pm_bc S 2 30 + pm_hm S 2 30))), (4, .int (nI (pm_bc S 0 30))), (5, .int (nI (S 10 0))), (6, .int (nI k))]) hx hb dL_isRound_105 hl (by decide) rfl (fun ls hl => ?_)
          refine lv_aload_n hx hb dL_isRound_107 rfl (lv_at hl 4 rfl) ?_
          refine lv_iload hx hb dL_isRound_108 (lv_at hl 9 rfl) ?_
          refine lv_bipush (v := nI 10) hx hb dL_isRound_110 (by decide) ?_
          refine lv_iload hx hb dL_isRound_112 (lv_at hl 2 rfl) ?_
          refine vp_callSi (W.runS (As := [.int (nI (pm_tk (S 4 k)))]) (rest := [.int (nI 10), .int (nI k), .ref dd]) ⟨hx, hb, hml, hown, hts⟩ (k_L_ones l (pm_tk (S 4 k)) (by omega)) (va_cwS 1 hts gL_isRound_L_ones rfl rfl rfl hd_L_ones ⟨Nat.le_of_ble_eq_true rfl, Nat.le_of_ble_eq_true rfl⟩) ⟨pm_no_blind, pm_no_pre⟩ rfl rfl hl.1 rfl (lv_room (Nat.le_of_ble_eq_true rfl)) dL_isRound_114 ⟨Nat.le_of_ble_eq_true rfl, Nat.le_of_ble_eq_true rfl⟩) (fun r557 h558 => ?_)
          obtain rfl : r557 = nI (pm_tc (S 4 k)) := h558
          have : pm_tc (S 4 k) < 4 := pm_pc4 _
          refine kx_imul hx hb dL_isRound_117 ?_
          refine lv_aload_n hx hb dL_isRound_118 rfl (lv_at hl 3 rfl) ?_
          refine lv_iload hx hb dL_isRound_119 (lv_at hl 9 rfl) ?_
          have hPc : va_P D vwCl (pm_cl y L S Bs pi kn Gs sv U) H := pq_cut hP
          refine vp_callSi (W.runV (As := [.int (nI k)]) (rest := [.int (nI (10 * (pm_tc (S 4 k)))), .int (nI k), .ref dd]) ⟨hx, hb, hml, hown, hts⟩ (k_X3_why l D y L S Bs pi kn Gs sv U Bs Gs (nI k) hI.1) (cwV 1 hts gL_isRound_X3_why rfl rfl rfl hd_X3_why ⟨Nat.le_of_ble_eq_true rfl, Nat.le_of_ble_eq_true rfl⟩) ⟨pm_ro_blind, va_recv hK hPc (ci := 3) (q0 := 0) rfl rfl, pm_ro_pre hPc hK⟩ rfl rfl hl.1 rfl (lv_room (Nat.le_of_ble_eq_true rfl)) dL_isRound_121 ⟨Nat.le_of_ble_eq_true rfl, Nat.le_of_ble_eq_true rfl⟩) (fun r559 h560 => ?_)
          obtain rfl : r559 = nI 1 := h560.trans (hw)
          refine lv_if_ne (tgt := 131) hx hb dL_isRound_124 (by decide) (fun _ => ?_) (fun c561 => absurd c561 (by decide))
          refine lv_aload_n hx hb dL_isRound_131 rfl (lv_at hl 3 rfl) ?_
          refine lv_iload hx hb dL_isRound_132 (lv_at hl 9 rfl) ?_
          refine lv_iconst (v := nI 0) hx hb dL_isRound_134 (by decide) ?_
          have hPc : va_P D vwCl (pm_cl y L S Bs pi kn Gs sv U) H := pq_cut hP
          refine vp_callSi (W.runV (As := [.int (nI k), .int (nI 0)]) (rest := [.int (nI (10 * (pm_tc (S 4 k)))), .int (nI k), .ref dd]) ⟨hx, hb, hml, hown, hts⟩ (k_X3_of l D y L S Bs pi kn Gs sv U Bs Gs (nI k) (nI 0) hI.1) (cwV 2 hts gL_isRound_X3_of rfl rfl rfl hd_X3_of ⟨Nat.le_of_ble_eq_true rfl, Nat.le_of_ble_eq_true rfl⟩) ⟨pm_ro_blind, va_recv hK hPc (ci := 3) (q0 := 0) rfl rfl, pm_ro_pre hPc hK⟩ rfl rfl hl.1 rfl (lv_room (Nat.le_of_ble_eq_true rfl)) dL_isRound_135 ⟨Nat.le_of_ble_eq_true rfl, Nat.le_of_ble_eq_true rfl⟩) (fun r562 h563 => ?_)
          obtain rfl : r562 = nI (S 0 k) := h563.trans (pq_of0 (by omega))
          have := hI.1.how k (by omega)
          refine kx_iadd hx hb dL_isRound_138 ?_
          refine lv_bipush (v := nI 100) hx hb dL_isRound_139 (by decide) ?_
          refine lv_iload hx hb dL_isRound_141 (lv_at hl 0 rfl) ?_
          refine kx_imul hx hb dL_isRound_143 ?_
          refine kx_iadd hx hb dL_isRound_144 ?_
          refine lv_aload_n hx hb dL_isRound_145 rfl (lv_at hl 3 rfl) ?_
          refine lv_iload hx hb dL_isRound_146 (lv_at hl 9 rfl) ?_
          refine lv_iconst (v := nI 0) hx hb dL_isRound_148 (by decide) ?_
          have hPc : va_P D vwCl (pm_cl y L S Bs pi kn Gs sv U) H := pq_cut hP
          refine vp_callSi (W.runV (As := [.int (nI k), .int (nI 0)]) (rest := [.int (nI (((10 * (pm_tc (S 4 k))) + (S 0 k)) + (100 * ((S 1 k) + 0)))), .int (nI k), .ref dd]) ⟨hx, hb, hml, hown, hts⟩ (k_X3_of l D y L S Bs pi kn Gs sv U Bs Gs (nI k) (nI 0) hI.1) (cwV 2 hts gL_isRound_X3_of rfl rfl rfl hd_X3_of ⟨Nat.le_of_ble_eq_true rfl, Nat.le_of_ble_eq_true rfl⟩) ⟨pm_ro_blind, va_recv hK hPc (ci := 3) (q0 := 0) rfl rfl, pm_ro_pre hPc hK⟩ rfl rfl hl.1 rfl (lv_room (Nat.le_of_ble_eq_true rfl)) dL_isRound_149 ⟨Nat.le_of_ble_eq_true rfl, Nat.le_of_ble_eq_true rfl⟩) (fun r564 h565 => ?_)
          obtain rfl : r564 = nI (S 0 k) := h565.trans (pq_of0 (by omega))
          have := hI.1.how k (by omega)
          refine kx_if_ne (tgt := 160) hx hb (by omega) dL_isRound_152 (by decide) (fun c566 => ?_) (fun c566 => by exfalso; omega)
          refine lv_iconst (v := nI 0) hx hb dL_isRound_160 (by decide) ?_
          refine kx_iadd hx hb dL_isRound_161 ?_
          refine lv_topi (fun x567 e568 => ?_)
          obtain rfl : x567 = nI (pq_d S k) := e568.trans (congrArg nI (by have h9 := pq_d_n h0; omega))
          refine kx_iast (ws' := (dd, .inl ((y 0), 36, .inl (pq_f1 F S (k + 1)))) :: pm_cl y L S Bs pi kn Gs sv U) hx hb hK hP hD hS 0 0 rfl rfl (by omega) (by decide) (pq_f1_s F S k) rfl dL_isRound_162 (fun H locs hP hD hS => ?_)
          refine kx_iinc (a := k) (lv' := [(6, .int (nI (k + 1))), (9, .int (nI ((S 1 k) + 0))), (8, .int (nI (pm_ck (S 4 k)))), (7, .int (nI (pm_tk (S 4 k)))), (0, .ref (L 0 0)), (1, .ref dd), (2, .int (nI (pm_bc S 1 30))), (3, .int (nI (pm_bc S 2 30 + pm_hm S 2 30))), (4, .int (nI (pm_bc S 0 30))), (5, .int (nI (S 10 0)))]) hx hb dL_isRound_163 hl (k := 9) rfl (by decide) rfl (fun ls hl => ?_)
          refine lv_goto (tgt := 35) hx hb dL_isRound_166 (by decide) ?_
          exact ih11 (k + 1) ls H locs hP hD hS (by omega) (by omega) (by exact lv_sub hl [4, 5, 6, 7, 8, 9, 0] rfl) 
  exact LOOP35 (30 + 1) 0 ls _ _ hP hD hS (by omega) (by omega) (lv_sub hl [5, 6, 4, 3, 2, 1, 0] rfl) 
