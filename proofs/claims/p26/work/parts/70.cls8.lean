/-! ===== the class is made ===== -/
def pm_mkz (D : va_G) (tys : List (ClassId × FieldType)) (av : List Value) (w : va_W) (sz : Nat) : Array Value → State → Prop := va_Pc av (fun U => ((U.heap.size = sz ∧ va_P D vwCl w U.heap ∧ va_K D vwCl tys U ∧ va_D (fun _ => True) w) ∧ va_AO RX2 U) ∧ va_Nw (.methodLinkNest RX3 25 yX1_init "ProofMarks") U)
theorem pm_born0 : ∀ j, j < 2 → defaultValue (tyX0 j) = vp_V [.null, .int 0] j := by
  intro j hj
  rcases (show j = 0 ∨ j = 1 by omega) with rfl | rfl <;> rfl
theorem pm_born1 : ∀ j, j < 8 → defaultValue (tyX1 j) = vp_V [.null, .int 0, .int 0, .int 0, .int 0, .int 0, .int 0, .int 0] j := by
  intro j hj
  rcases (show j = 0 ∨ j = 1 ∨ j = 2 ∨ j = 3 ∨ j = 4 ∨ j = 5 ∨ j = 6 ∨ j = 7 by omega) with rfl | rfl | rfl | rfl | rfl | rfl | rfl | rfl <;> rfl
theorem pm_arq {cA : ClassId} {n : Nat} {f g : Nat → Option Nat} (h : ∀ j, j < n → f j = g j) : vp_cell cA (n, .inr (.inr (.inr (.inr f)))) = vp_cell cA (n, .inr (.inr (.inr (.inr g)))) := by
  rw [vp_cell_q, vp_cell_q, arrV, arrV]
  congr 1
  apply Array.ext
  · simp
  · intro i h1 h2
    simp only [Array.size_ofFn] at h1
    simp only [Array.getElem_ofFn]
    rw [h i h1]
theorem pm_P_arq {D : va_G} {cl : List vw_C} {ws ws' : va_W} {H : Heap} (q0 : Nat) {a : Nat} {cA : ClassId} {n : Nat} {f g : Nat → Option Nat} (hP : va_P D cl ws H) (ha : ws[q0]? = some (a, .inl (cA, n, .inr (.inr (.inr (.inr f)))))) (h : ∀ j, j < n → f j = g j) (hw : ws.set q0 (a, .inl (cA, n, .inr (.inr (.inr (.inr g))))) = ws') : va_P D cl ws' H := by
  subst hw
  have hl := (List.getElem?_eq_some_iff.mp ha).1
  intro k z hk
  by_cases hkq : k = q0
  · subst hkq
    rw [List.getElem?_set_self hl] at hk
    cases hk
    have h0 := hP _ _ ha
    exact h0.trans (congrArg some (pm_arq h))
  · rw [List.getElem?_set_ne (Ne.symm hkq)] at hk
    exact hP k z hk
def pm_mkL (a0 a1 a2 : Nat) (h u p : Nat → Nat) (b g : Nat → Nat → Nat) : Nat → Nat → Nat
  | 0 => fun j => match j with
    | 0 => a0
    | 1 => a1
    | _ => a2
  | 1 => h
  | 2 => u
  | 3 => p
  | k + 4 => if k < 7 then b k else g (k - 7)
theorem pm_mkL_b {a0 a1 a2 : Nat} {h u p : Nat → Nat} {b g : Nat → Nat → Nat} {i : Nat} (hi : i < 7) : pm_bL (pm_mkL a0 a1 a2 h u p b g) i = b i := by
  unfold pm_bL
  rw [Nat.add_comm]
  exact if_pos hi
theorem pm_mkL_g {a0 a1 a2 : Nat} {h u p : Nat → Nat} {b g : Nat → Nat → Nat} (i : Nat) : pm_gL (pm_mkL a0 a1 a2 h u p b g) i = g i := by
  unfold pm_gL
  rw [show 11 + i = (7 + i) + 4 by omega]
  show (if 7 + i < 7 then b (7 + i) else g (7 + i - 7)) = g i
  rw [if_neg (by omega), show 7 + i - 7 = i by omega]
/-- the cells while the slots are filled: i of them are -/
def pm_cmk (y : Nat → ClassId) (a0 a1 a2 : Nat) (h u p : Nat → Nat) (b g : Nat → Nat → Nat) (f : Nat → Option Nat) (i : Nat) : va_W := [(a1, .inl (y 3, 2, .inr (.inr (.inr (.inr f))))), (a2, .inl (y 2, 2, .inl (pm_vn (fun _ => 0)))), (a0, .inr (3, [.ref (u 0), .ref (h 0), .ref (p 0), .ref a1, .ref a2]))] ++ (((pm_shS y u pm_S0 ++ pm_hi y h b (fun _ => pm_S0) (pm_rf b (fun j => j)) 0) ++ pm_pad y p (fun _ => 0) 0 0 0 0 0 0 0) ++ pm_shs y g (fun _ => pm_S0) i)
theorem pm_pmk {α : Type} (c1 c2 c3 : α) (u h p g : List α) : ([c1, c2, c3] ++ (((u ++ h) ++ p) ++ g)).Perm ([c3] ++ (h ++ (u ++ (p ++ ([c1, c2] ++ g))))) := by
  refine (List.perm_append_comm (l₁ := [c1, c2]) (l₂ := c3 :: (((u ++ h) ++ p) ++ g))).trans ?_
  show (c3 :: ((((u ++ h) ++ p) ++ g) ++ [c1, c2])).Perm (c3 :: (h ++ (u ++ (p ++ ([c1, c2] ++ g)))))
  refine List.Perm.cons c3 ?_
  simp only [List.append_assoc]
  rw [← List.append_assoc, ← List.append_assoc h]
  refine List.Perm.append List.perm_append_comm (List.Perm.append_left p List.perm_append_comm)
theorem pm_pmi {α : Type} (c1 c2 c3 : α) (u h p : List α) : (((((([c3] ++ u) ++ h) ++ p) ++ [c1]) ++ [c2])).Perm ([c1, c2, c3] ++ (((u ++ h) ++ p) ++ [])) := by
  simp only [List.append_nil, List.append_assoc]
  show (c3 :: (u ++ (h ++ (p ++ [c1, c2])))).Perm ([c1, c2] ++ (c3 :: (u ++ (h ++ p))))
  refine List.Perm.trans ?_ (List.perm_append_comm (l₁ := c3 :: (u ++ (h ++ p))) (l₂ := [c1, c2]))
  show (c3 :: (u ++ (h ++ (p ++ [c1, c2])))).Perm (c3 :: ((u ++ (h ++ p)) ++ [c1, c2]))
  simp only [List.append_assoc]
  exact List.Perm.refl _
abbrev pm_U0 : pm_PT := ((fun _ => 0), 0, 0, 0, 0, 0, 0, 0)
theorem pm_cmk_e (y : Nat → ClassId) (a0 a1 a2 : Nat) (h u p : Nat → Nat) (b g : Nat → Nat → Nat) : (pm_cl y (pm_mkL a0 a1 a2 h u p b g) pm_S0 (fun _ => pm_S0) (fun j => j) 0 (fun _ => pm_S0) (fun _ => 0) pm_U0) = [(a0, .inr (3, [.ref (u 0), .ref (h 0), .ref (p 0), .ref a1, .ref a2]))] ++ (([(h 0, .inr (0, [.ref (h 1), .int (nI 0)])), (h 1, .inl (y 3, 7, .inr (.inr (.inr (.inr (pm_rf (pm_bL (pm_mkL a0 a1 a2 h u p b g)) (fun j => j)))))))] ++ pm_shs y b (fun _ => pm_S0) 7) ++ (pm_shS y u pm_S0 ++ (pm_pad y p (fun _ => 0) 0 0 0 0 0 0 0 ++ ([(a1, .inl (y 3, 2, .inr (.inr (.inr (.inr (fun i => some (pm_gL (pm_mkL a0 a1 a2 h u p b g) i 0))))))), (a2, .inl (y 2, 2, .inl (pm_vn (fun _ => 0))))] ++ pm_shs y g (fun _ => pm_S0) 2)))) := by
  unfold pm_cl pm_cH pm_hi pm_cG pm_cP
  rw [pm_shs_c y (pm_bL (pm_mkL a0 a1 a2 h u p b g)) b (fun _ => pm_S0) 7 (fun j hj => pm_mkL_b hj), pm_shs_c y (pm_gL (pm_mkL a0 a1 a2 h u p b g)) g (fun _ => pm_S0) 2 (fun j hj => pm_mkL_g j)]
  rfl
theorem pm_cmk_l {A : Nat → Prop} {D : va_G} {y : Nat → ClassId} {a0 a1 a2 : Nat} {h u p : Nat → Nat} {b g : Nat → Nat → Nat} {H : Heap} (hP : va_P D vwCl (pm_cmk y a0 a1 a2 h u p b g (pm_fi g 2) 2) H) (hD : va_D A (pm_cmk y a0 a1 a2 h u p b g (pm_fi g 2) 2)) : va_P D vwCl (pm_cl y (pm_mkL a0 a1 a2 h u p b g) pm_S0 (fun _ => pm_S0) (fun j => j) 0 (fun _ => pm_S0) (fun _ => 0) pm_U0) H ∧ va_D A (pm_cl y (pm_mkL a0 a1 a2 h u p b g) pm_S0 (fun _ => pm_S0) (fun j => j) 0 (fun _ => pm_S0) (fun _ => 0) pm_U0) := by
  unfold pm_cmk pm_hi at hP hD
  have h1 := pm_P_arq 0 hP rfl (g := fun i => some (pm_gL (pm_mkL a0 a1 a2 h u p b g) i 0)) (fun j hj => by
    unfold pm_fi
    rw [if_pos hj, pm_mkL_g]) rfl
  have h2 := pm_P_arq 17 h1 rfl (g := pm_rf (pm_bL (pm_mkL a0 a1 a2 h u p b g)) (fun j => j)) (fun j hj => by
    unfold pm_rf
    rw [pm_mkL_b hj]) rfl
  rw [pm_cmk_e]
  refine ⟨pm_permP (pm_pmk _ _ _ _ _ _ _) h2, ?_⟩
  have h3 := pm_permD (pm_pmk _ _ _ _ _ _ _) hD
  refine pm_D_same ?_ h3
  simp only [List.map_append, List.map_cons, List.map_nil]

set_option maxHeartbeats 4000000 in
set_option maxRecDepth 100000 in
theorem k_X3_init (l : Launch) (D : va_G) (y : Nat → ClassId) (a0 sz : Nat)  : Met l yX3_init wsX3_init ({ frames := 3, cells := 136, slots := 2251, locals := 54 } : Room) (pm_mkz D (pm_ty y) [.ref a0] ([(a0, .inr (3, [.null, .null, .null, .null, .null]))]) sz) (pm_Qm D (fun (u : Nat → Nat → Nat) => u 0 0 = a0) (fun (u : Nat → Nat → Nat) => pm_cl y u pm_S0 (fun _ => pm_S0) (fun j => j) 0 (fun _ => pm_S0) (fun _ => 0) pm_U0) ([(a0, .inr (3, [.null, .null, .null, .null, .null]))]) sz) 136 2251 (va_A ([(a0, .inr (3, [.null, .null, .null, .null, .null]))]) sz) := by
  refine Met.ofW (cc := cX3_init) (maxL := 2) (ret := none) (by decide) rfl ?_
  intro p e s m args below meth c s₁ B hml hpre
  obtain ⟨rfl, ⟨⟨hsz, hP, hK, hD0⟩, hO⟩, hNm⟩ := hpre
  have hx := B.exec
  have hb := B.bytes
  have hr := B.returns
  have hts := atoms_spec (ws := wsX3_init) B.pre
  have hown : s.vm.findClass RX3 = some m.cls := findClass_of_methodNamed B.named
  have hlocks := B.notSynchronized
  have hin : meth.name = "<init>" := (name_of_methodNamed B.named B.method).1
  have hin2 : ∀ w ∈ u_ws RX2 TX2 15, w ∈ wsX3_init := fun w h => List.mem_cons_of_mem _ (List.mem_append_left _ (List.mem_append_left _ (List.mem_append_left _ (List.mem_append_right _ h))))
  have hin3 : ∀ w ∈ u_ws RX3 TX3 5, w ∈ wsX3_init := fun w h => List.mem_cons_of_mem _ (List.mem_append_left _ (List.mem_append_left _ (List.mem_append_right _ h)))
  have hin0 : ∀ w ∈ u_ws RX0 TX0 2, w ∈ wsX3_init := fun w h => List.mem_cons_of_mem _ (List.mem_append_left _ (List.mem_append_right _ h))
  have hin1 : ∀ w ∈ u_ws RX1 TX1 8, w ∈ wsX3_init := fun w h => List.mem_cons_of_mem _ (List.mem_append_right _ h)
  have hP : va_P D vwCl ([(a0, .inr (3, [.null, .null, .null, .null, .null]))]) s.heap := hP
  subst hsz
  have hD := hD0.self (sz := s.heap.size)
  unfold pm_Qm
  generalize hAe : va_A ([(a0, .inr (3, [.null, .null, .null, .null, .null]))]) s.heap.size = A at hD ⊢
  have hA : ∀ q : Nat, s.heap.size ≤ q → A q := fun q h => by rw [← hAe]; exact Or.inr h
  have hS : va_S A s.heap s.heap [] := va_S.rf
  have hl := lv_entry ([.ref a0]) (n := 2) (Nat.le_of_ble_eq_true rfl)
  rw [lg_entry_eq]
  generalize (lg_sl ([.ref a0]) ++ List.replicate (2 - (lg_sl ([.ref a0])).length) Slot.unset).toArray = ls at hl ⊢
  have hl : lv_has ls 2 [(0, .ref a0)] := hl
  refine lv_aload_n hx hb dX3_init_0 rfl (lv_at hl 0 rfl) ?_
  refine W.objInit hx hb hown (hts (.methodLink RX3 1 objectInit) (List.mem_of_getElem? (i := 1) rfl)) (hts (.instanceMethod objectInit) (List.mem_of_getElem? (i := 2) rfl)) (hts (.code objectInit ⟨#[0xb1]⟩ 1 none) (List.mem_of_getElem? (i := 3) rfl)) rfl (by rw [hml]; exact hl.1) rfl dX3_init_1 (Nat.le_of_ble_eq_true rfl) (Nat.le_of_ble_eq_true rfl) ?_
  refine W.eq (g2 := F0 m 4 ls []) rfl ?_
  refine lv_aload_n hx hb dX3_init_4 rfl (lv_at hl 0 rfl) ?_
  refine va_new (ci := 2) (fs := [.null, .null, .null, .null, .null, .null, .null, .null, .null, .null, .null, .null, .int 0, .int 0, .int 0]) (C := RX2) (T := TX2) (N := 15) hx hb hts hin2 tyX2 tyX2_ok hown (hts (.classLink RX3 7 RX2) (List.mem_of_getElem? (i := 4) rfl)) (hts (.instantiable RX2 15) (List.mem_of_getElem? (i := 5) rfl)) (hts (.initialized RX2) (List.mem_of_getElem? (i := 6) rfl)) hK hP hD hS hA rfl pm_born2 (show 0 + 1 ≤ 136 by omega) (show 0 + 15 ≤ 2251 by omega) dX3_init_5 (fun n1 H hP hD hS => ?_)
  refine lv_dup hx hb dX3_init_8 rfl ?_
  have hL := pm_last hP hD
  have hF := pm_hF hD hA hS.1
  refine va_callv (va_runI (As := []) (rest := [.ref n1, .ref a0]) ⟨hx, hb, hml, hown, hts⟩ (k_X2_init l D y n1 H.size) (cwI 0 hts gX3_init_X2_init rfl rfl rfl (hts (.initialized RX2) (List.mem_of_getElem? (i := 6) rfl)) (hts (.methodLink RX3 9 yX2_init) (List.mem_of_getElem? (i := 19) rfl)) (hts (.instanceMethod yX2_init) (List.mem_of_getElem? (i := 20) rfl)) rfl hd_X2_init ⟨Nat.le_of_ble_eq_true rfl, Nat.le_of_ble_eq_true rfl⟩) ⟨pm_mkr_blind, pm_mkr_pre hL.1 hK hL.2⟩ rfl rfl hl.1 rfl (lv_room (Nat.le_of_ble_eq_true rfl)) dX3_init_9 ⟨show 0 + 1 + 12 ≤ 136 by omega, show 0 + 15 + 200 ≤ 2251 by omega⟩) hS (fun q _ h => hF q h) hF (fun u1 t9 H1 locs ht9 _ h9 hB9 hz9 hk9 hS => ?_)
  obtain ⟨hP8, hD8⟩ := pm_joinN hP hD hk9 hF (by rw [← ht9]; exact hB9.1) hB9.2
  clear hP hD hL hF hB9 hk9 ht9
  obtain rfl : n1 = u1 0 := h9.symm
  have hP := hP8
  have hD := hD8
  clear hP8 hD8
  have hP : va_P D vwCl (([(a0, .inr (3, [.null, .null, .null, .null, .null]))]) ++ pm_shS y u1 pm_S0) H1 := hP
  have hD : va_D A (([(a0, .inr (3, [.null, .null, .null, .null, .null]))]) ++ pm_shS y u1 pm_S0) := hD
  generalize H1 = H at hP hS ⊢
  refine va_putF (D := D) (ci := 3) (v := .ref (u1 0)) (ty := tyX3 0) (C := RX3) (T := TX3) (N := 5) hx hb hts hin3 tyX3 tyX3_ok nmX3 hown hK hP hD hS 0 rfl rfl 0 (by decide) (hts (.fieldLink RX3 10 "ProofMarks" "sheet" "LProofMarks$Sheet;") (List.mem_of_getElem? (i := 7) rfl)) (fun _ h9 => h9) rfl hin rfl (by decide +kernel) rfl rfl (Nat.le_of_ble_eq_true rfl) dX3_init_12 (fun H locs hP hD hS => ?_)
  have hP : va_P D vwCl (([(a0, .inr (3, [.ref (u1 0), .null, .null, .null, .null]))]) ++ pm_shS y u1 pm_S0) H := hP
  have hD : va_D A (([(a0, .inr (3, [.ref (u1 0), .null, .null, .null, .null]))]) ++ pm_shS y u1 pm_S0) := hD
  refine lv_aload_n hx hb dX3_init_15 rfl (lv_at hl 0 rfl) ?_
  refine va_new (ci := 0) (fs := [.null, .int 0]) (C := RX0) (T := TX0) (N := 2) hx hb hts hin0 tyX0 tyX0_ok hown (hts (.classLink RX3 16 RX0) (List.mem_of_getElem? (i := 8) rfl)) (hts (.instantiable RX0 2) (List.mem_of_getElem? (i := 9) rfl)) (hts (.initialized RX0) (List.mem_of_getElem? (i := 10) rfl)) hK hP hD hS hA rfl pm_born0 (show 0 + 1 + 12 + 1 ≤ 136 by omega) (show 0 + 15 + 200 + 2 ≤ 2251 by omega) dX3_init_16 (fun n2 H hP hD hS => ?_)
  refine lv_dup hx hb dX3_init_19 rfl ?_
  have hL := pm_last hP hD
  have hF := pm_hF hD hA hS.1
  refine va_callv (va_runI (As := []) (rest := [.ref n2, .ref a0]) ⟨hx, hb, hml, hown, hts⟩ (k_X0_init l D y n2 H.size) (cwI 0 hts gX3_init_X0_init rfl rfl rfl (hts (.initialized RX0) (List.mem_of_getElem? (i := 10) rfl)) (hts (.methodLink RX3 18 yX0_init) (List.mem_of_getElem? (i := 39) rfl)) (hts (.instanceMethod yX0_init) (List.mem_of_getElem? (i := 40) rfl)) rfl hd_X0_init ⟨Nat.le_of_ble_eq_true rfl, Nat.le_of_ble_eq_true rfl⟩) ⟨pm_mkq_blind, pm_mkq_pre hL.1 hK hL.2 hO⟩ rfl rfl hl.1 rfl (lv_room (Nat.le_of_ble_eq_true rfl)) dX3_init_20 ⟨show 0 + 1 + 12 + 1 + 92 ≤ 136 by omega, show 0 + 15 + 200 + 2 + 1512 ≤ 2251 by omega⟩) hS (fun q _ h => hF q h) hF (fun u2 t9 H1 locs ht9 _ h9 hB9 hz9 hk9 hS => ?_)
  obtain ⟨hP8, hD8⟩ := pm_joinN hP hD hk9 hF (by rw [← ht9]; exact hB9.1) hB9.2
  clear hP hD hL hF hB9 hk9 ht9
  obtain rfl : n2 = u2.1 0 := h9.symm
  have hP := hP8
  have hD := hD8
  clear hP8 hD8
  have hP : va_P D vwCl ((([(a0, .inr (3, [.ref (u1 0), .null, .null, .null, .null]))]) ++ pm_shS y u1 pm_S0) ++ pm_hi y u2.1 u2.2 (fun _ => pm_S0) (pm_rf u2.2 (fun j => j)) 0) H1 := hP
  have hD : va_D A ((([(a0, .inr (3, [.ref (u1 0), .null, .null, .null, .null]))]) ++ pm_shS y u1 pm_S0) ++ pm_hi y u2.1 u2.2 (fun _ => pm_S0) (pm_rf u2.2 (fun j => j)) 0) := hD
  generalize H1 = H at hP hS ⊢
  refine va_putF (D := D) (ci := 3) (v := .ref (u2.1 0)) (ty := tyX3 1) (C := RX3) (T := TX3) (N := 5) hx hb hts hin3 tyX3 tyX3_ok nmX3 hown hK hP hD hS 0 rfl rfl 1 (by decide) (hts (.fieldLink RX3 19 "ProofMarks" "history" "LProofMarks$History;") (List.mem_of_getElem? (i := 11) rfl)) (fun _ h9 => h9) rfl hin rfl (by decide +kernel) rfl rfl (Nat.le_of_ble_eq_true rfl) dX3_init_23 (fun H locs hP hD hS => ?_)
  have hP : va_P D vwCl ((([(a0, .inr (3, [.ref (u1 0), .ref (u2.1 0), .null, .null, .null]))]) ++ pm_shS y u1 pm_S0) ++ pm_hi y u2.1 u2.2 (fun _ => pm_S0) (pm_rf u2.2 (fun j => j)) 0) H := hP
  have hD : va_D A ((([(a0, .inr (3, [.ref (u1 0), .ref (u2.1 0), .null, .null, .null]))]) ++ pm_shS y u1 pm_S0) ++ pm_hi y u2.1 u2.2 (fun _ => pm_S0) (pm_rf u2.2 (fun j => j)) 0) := hD
  refine lv_aload_n hx hb dX3_init_26 rfl (lv_at hl 0 rfl) ?_
  refine va_new (ci := 1) (fs := [.null, .int 0, .int 0, .int 0, .int 0, .int 0, .int 0, .int 0]) (C := RX1) (T := TX1) (N := 8) hx hb hts hin1 tyX1 tyX1_ok hown (hts (.classLink RX3 23 RX1) (List.mem_of_getElem? (i := 12) rfl)) (hts (.instantiable RX1 8) (List.mem_of_getElem? (i := 13) rfl)) (hts (.initialized RX1) (List.mem_of_getElem? (i := 14) rfl)) hK hP hD hS hA rfl pm_born1 (show 0 + 1 + 12 + 1 + 92 + 1 ≤ 136 by omega) (show 0 + 15 + 200 + 2 + 1512 + 8 ≤ 2251 by omega) dX3_init_27 (fun n3 H hP hD hS => ?_)
  refine lv_dup hx hb dX3_init_30 rfl ?_
  have hL := pm_last hP hD
  have hF := pm_hF hD hA hS.1
  refine va_callv (va_runIN (As := []) (rest := [.ref n3, .ref a0]) ⟨hx, hb, hml, hown, hts⟩ (k_X1_init l D y n3 H.size) ⟨va_cnB 0 hts gX3_init_X1_init_n25 rfl rfl rfl hNm (hts (.initialized RX1) (List.mem_of_getElem? (i := 14) rfl)) hd_X1_init ⟨Nat.le_of_ble_eq_true rfl, Nat.le_of_ble_eq_true rfl⟩, rfl, (hts (.instanceMethod yX1_init) (List.mem_of_getElem? (i := 47) rfl))⟩ ⟨pm_mkr_blind, pm_mkr_pre hL.1 hK hL.2⟩ rfl rfl hl.1 rfl (lv_room (Nat.le_of_ble_eq_true rfl)) dX3_init_31 ⟨show 0 + 1 + 12 + 1 + 92 + 1 + 1 ≤ 136 by omega, show 0 + 15 + 200 + 2 + 1512 + 8 + 80 ≤ 2251 by omega⟩) hS (fun q _ h => hF q h) hF (fun u3 t9 H1 locs ht9 _ h9 hB9 hz9 hk9 hS => ?_)
  obtain ⟨hP8, hD8⟩ := pm_joinN hP hD hk9 hF (by rw [← ht9]; exact hB9.1) hB9.2
  clear hP hD hL hF hB9 hk9 ht9
  obtain rfl : n3 = u3 0 := h9.symm
  have hP := hP8
  have hD := hD8
  clear hP8 hD8
  have hP : va_P D vwCl (((([(a0, .inr (3, [.ref (u1 0), .ref (u2.1 0), .null, .null, .null]))]) ++ pm_shS y u1 pm_S0) ++ pm_hi y u2.1 u2.2 (fun _ => pm_S0) (pm_rf u2.2 (fun j => j)) 0) ++ pm_pad y u3 (fun _ => 0) 0 0 0 0 0 0 0) H1 := hP
  have hD : va_D A (((([(a0, .inr (3, [.ref (u1 0), .ref (u2.1 0), .null, .null, .null]))]) ++ pm_shS y u1 pm_S0) ++ pm_hi y u2.1 u2.2 (fun _ => pm_S0) (pm_rf u2.2 (fun j => j)) 0) ++ pm_pad y u3 (fun _ => 0) 0 0 0 0 0 0 0) := hD
  generalize H1 = H at hP hS ⊢
  refine va_putF (D := D) (ci := 3) (v := .ref (u3 0)) (ty := tyX3 2) (C := RX3) (T := TX3) (N := 5) hx hb hts hin3 tyX3 tyX3_ok nmX3 hown hK hP hD hS 0 rfl rfl 2 (by decide) (hts (.fieldLink RX3 26 "ProofMarks" "pad" "LProofMarks$Pad;") (List.mem_of_getElem? (i := 15) rfl)) (fun _ h9 => h9) rfl hin rfl (by decide +kernel) rfl rfl (Nat.le_of_ble_eq_true rfl) dX3_init_34 (fun H locs hP hD hS => ?_)
  have hP : va_P D vwCl (((([(a0, .inr (3, [.ref (u1 0), .ref (u2.1 0), .ref (u3 0), .null, .null]))]) ++ pm_shS y u1 pm_S0) ++ pm_hi y u2.1 u2.2 (fun _ => pm_S0) (pm_rf u2.2 (fun j => j)) 0) ++ pm_pad y u3 (fun _ => 0) 0 0 0 0 0 0 0) H := hP
  have hD : va_D A (((([(a0, .inr (3, [.ref (u1 0), .ref (u2.1 0), .ref (u3 0), .null, .null]))]) ++ pm_shS y u1 pm_S0) ++ pm_hi y u2.1 u2.2 (fun _ => pm_S0) (pm_rf u2.2 (fun j => j)) 0) ++ pm_pad y u3 (fun _ => 0) 0 0 0 0 0 0 0) := hD
  refine lv_aload_n hx hb dX3_init_37 rfl (lv_at hl 0 rfl) ?_
  refine lv_iconst (v := nI 2) hx hb dX3_init_38 (by decide) ?_
  refine va_newq (n := nI 2) (N' := 2) hx hb hown (hts (.classLink RX3 7 RX2) (List.mem_of_getElem? (i := 4) rfl)) hO hK hP hD hS hA (by decide) rfl (Nat.le_of_ble_eq_true rfl) (show 0 + 1 + 12 + 1 + 92 + 1 + 1 + 1 ≤ 136 by omega) (show 0 + 15 + 200 + 2 + 1512 + 8 + 80 + 2 ≤ 2251 by omega) dX3_init_39 (fun a1 cA4 H hK5 hP hD hS => ?_)
  obtain rfl := pm_same3 hK hK5
  have hP : va_P D vwCl ((((([(a0, .inr (3, [.ref (u1 0), .ref (u2.1 0), .ref (u3 0), .null, .null]))]) ++ pm_shS y u1 pm_S0) ++ pm_hi y u2.1 u2.2 (fun _ => pm_S0) (pm_rf u2.2 (fun j => j)) 0) ++ pm_pad y u3 (fun _ => 0) 0 0 0 0 0 0 0) ++ [(a1, .inl (y 3, 2, .inr (.inr (.inr (.inr (fun _ => none))))))]) H := hP
  have hD : va_D A ((((([(a0, .inr (3, [.ref (u1 0), .ref (u2.1 0), .ref (u3 0), .null, .null]))]) ++ pm_shS y u1 pm_S0) ++ pm_hi y u2.1 u2.2 (fun _ => pm_S0) (pm_rf u2.2 (fun j => j)) 0) ++ pm_pad y u3 (fun _ => 0) 0 0 0 0 0 0 0) ++ [(a1, .inl (y 3, 2, .inr (.inr (.inr (.inr (fun _ => none))))))]) := hD
  refine va_putF (D := D) (ci := 3) (v := .ref a1) (ty := tyX3 3) (C := RX3) (T := TX3) (N := 5) hx hb hts hin3 tyX3 tyX3_ok nmX3 hown hK hP hD hS 0 rfl rfl 3 (by decide) (hts (.fieldLink RX3 30 "ProofMarks" "slots" "[LProofMarks$Sheet;") (List.mem_of_getElem? (i := 16) rfl)) (fun _ h9 => h9) rfl hin rfl (by decide +kernel) rfl rfl (Nat.le_of_ble_eq_true rfl) dX3_init_42 (fun H locs hP hD hS => ?_)
  have hP : va_P D vwCl ((((([(a0, .inr (3, [.ref (u1 0), .ref (u2.1 0), .ref (u3 0), .ref a1, .null]))]) ++ pm_shS y u1 pm_S0) ++ pm_hi y u2.1 u2.2 (fun _ => pm_S0) (pm_rf u2.2 (fun j => j)) 0) ++ pm_pad y u3 (fun _ => 0) 0 0 0 0 0 0 0) ++ [(a1, .inl (y 3, 2, .inr (.inr (.inr (.inr (fun _ => none))))))]) H := hP
  have hD : va_D A ((((([(a0, .inr (3, [.ref (u1 0), .ref (u2.1 0), .ref (u3 0), .ref a1, .null]))]) ++ pm_shS y u1 pm_S0) ++ pm_hi y u2.1 u2.2 (fun _ => pm_S0) (pm_rf u2.2 (fun j => j)) 0) ++ pm_pad y u3 (fun _ => 0) 0 0 0 0 0 0 0) ++ [(a1, .inl (y 3, 2, .inr (.inr (.inr (.inr (fun _ => none))))))]) := hD
  refine lv_aload_n hx hb dX3_init_45 rfl (lv_at hl 0 rfl) ?_
  refine lv_iconst (v := nI 2) hx hb dX3_init_46 (by decide) ?_
  refine va_newa (atype := .boolean) (n := nI 2) (N' := 2) (a0 := (2, .inl (pm_vn (fun _ => 0)))) hx hb (hts (.arrayClass .boolean) (List.mem_of_getElem? (i := 17) rfl)) rfl hK hP hD hS hA (fun c => pm_zc c 2) (by decide) rfl (Nat.le_of_ble_eq_true rfl) (show 0 + 1 + 12 + 1 + 92 + 1 + 1 + 1 + 1 ≤ 136 by omega) (show 0 + 15 + 200 + 2 + 1512 + 8 + 80 + 2 + 2 ≤ 2251 by omega) dX3_init_47 (fun a2 cA6 H hK7 hP hD hS => ?_)
  obtain rfl := pm_same2 hK hK7
  have hP : va_P D vwCl (((((([(a0, .inr (3, [.ref (u1 0), .ref (u2.1 0), .ref (u3 0), .ref a1, .null]))]) ++ pm_shS y u1 pm_S0) ++ pm_hi y u2.1 u2.2 (fun _ => pm_S0) (pm_rf u2.2 (fun j => j)) 0) ++ pm_pad y u3 (fun _ => 0) 0 0 0 0 0 0 0) ++ [(a1, .inl (y 3, 2, .inr (.inr (.inr (.inr (fun _ => none))))))]) ++ [(a2, .inl (y 2, 2, .inl (pm_vn (fun _ => 0))))]) H := hP
  have hD : va_D A (((((([(a0, .inr (3, [.ref (u1 0), .ref (u2.1 0), .ref (u3 0), .ref a1, .null]))]) ++ pm_shS y u1 pm_S0) ++ pm_hi y u2.1 u2.2 (fun _ => pm_S0) (pm_rf u2.2 (fun j => j)) 0) ++ pm_pad y u3 (fun _ => 0) 0 0 0 0 0 0 0) ++ [(a1, .inl (y 3, 2, .inr (.inr (.inr (.inr (fun _ => none))))))]) ++ [(a2, .inl (y 2, 2, .inl (pm_vn (fun _ => 0))))]) := hD
  refine va_putF (D := D) (ci := 3) (v := .ref a2) (ty := tyX3 4) (C := RX3) (T := TX3) (N := 5) hx hb hts hin3 tyX3 tyX3_ok nmX3 hown hK hP hD hS 0 rfl rfl 4 (by decide) (hts (.fieldLink RX3 34 "ProofMarks" "saved" "[Z") (List.mem_of_getElem? (i := 18) rfl)) (fun _ h9 => h9) rfl hin rfl (by decide +kernel) rfl rfl (Nat.le_of_ble_eq_true rfl) dX3_init_49 (fun H locs hP hD hS => ?_)
  have hP : va_P D vwCl (((((([(a0, .inr (3, [.ref (u1 0), .ref (u2.1 0), .ref (u3 0), .ref a1, .ref a2]))]) ++ pm_shS y u1 pm_S0) ++ pm_hi y u2.1 u2.2 (fun _ => pm_S0) (pm_rf u2.2 (fun j => j)) 0) ++ pm_pad y u3 (fun _ => 0) 0 0 0 0 0 0 0) ++ [(a1, .inl (y 3, 2, .inr (.inr (.inr (.inr (fun _ => none))))))]) ++ [(a2, .inl (y 2, 2, .inl (pm_vn (fun _ => 0))))]) H := hP
  have hD : va_D A (((((([(a0, .inr (3, [.ref (u1 0), .ref (u2.1 0), .ref (u3 0), .ref a1, .ref a2]))]) ++ pm_shS y u1 pm_S0) ++ pm_hi y u2.1 u2.2 (fun _ => pm_S0) (pm_rf u2.2 (fun j => j)) 0) ++ pm_pad y u3 (fun _ => 0) 0 0 0 0 0 0 0) ++ [(a1, .inl (y 3, 2, .inr (.inr (.inr (.inr (fun _ => none))))))]) ++ [(a2, .inl (y 2, 2, .inl (pm_vn (fun _ => 0))))]) := hD
  refine lv_iconst (v := nI 0) hx hb dX3_init_52 (by decide) ?_
  refine lv_istore_n (lv' := [(1, .int (nI 0)), (0, .ref a0)]) hx hb dX3_init_53 rfl hl (by decide) rfl (fun ls hl => ?_)
  have hP : va_P D vwCl (pm_cmk y a0 a1 a2 u2.1 u1 u3 u2.2 (fun _ _ => 0) (fun _ => none) 0) H := pm_permP (pm_pmi _ _ _ _ _ _) hP
  have hD : va_D A (pm_cmk y a0 a1 a2 u2.1 u1 u3 u2.2 (fun _ _ => 0) (fun _ => none) 0) := pm_permD (pm_pmi _ _ _ _ _ _) hD
  refine W.widen (k := 110 + 13 * 0) (n := 1821 + 215 * 0) (by omega) (by omega) ?_
  have LOOP54 : ∀ (n i : Nat) (ls : Array Slot) (H : Heap) (locs : List Loc) (g : Nat → Nat → Nat), va_P D vwCl (pm_cmk y a0 a1 a2 u2.1 u1 u3 u2.2 g (pm_fi g i) i) H → va_D A (pm_cmk y a0 a1 a2 u2.1 u1 u3 u2.2 g (pm_fi g i) i) → va_S A s.heap H locs → i ≤ 2 → 2 - i < n → lv_has ls 2 [(0, .ref a0), (1, .int (nI i))] → W p l e (headSpec wsX3_init ({ frames := 3, cells := 136, slots := 2251, locals := 54 } : Room)).room s m ([.ref a0] : List Value).toArray below meth c H locs (110 + 13 * i) (1821 + 215 * i) (MQ below (va_Qv (fun (u : Nat → Nat → Nat) => u 0 0 = a0) (fun (u : Nat → Nat → Nat) t => va_P D vwCl (pm_cl y u pm_S0 (fun _ => pm_S0) (fun j => j) 0 (fun _ => pm_S0) (fun _ => 0) pm_U0) t.heap ∧ va_D A (pm_cl y u pm_S0 (fun _ => pm_S0) (fun j => j) 0 (fun _ => pm_S0) (fun _ => 0) pm_U0)) A) ([.ref a0] : List Value).toArray s 136 2251 A) (F0 m 54 ls []) := by
    intro n
    induction n with
    | zero => intro i _ _ _ _ _ _ _ hi hn; omega
    | succ n ih8 =>
      intro i ls H locs g hP hD hS hi_i hn_i hl 
      refine lv_iload_n hx hb dX3_init_54 rfl (lv_at hl 1 rfl) ?_
      refine lv_iconst (v := nI 2) hx hb dX3_init_55 (by decide) ?_
      refine kx_icmp_ge (tgt := 78) hx hb (by omega) (by decide) dX3_init_56 (by decide) (fun c9 => ?_) (fun c9 => ?_)
      · skip
        have e10 : i = 2 := by omega
        subst e10
        obtain ⟨hP9, hD9⟩ := pm_cmk_l hP hD
        exact W.vret hx hb hr (fun t ht _ => ⟨⟨pm_mkL a0 a1 a2 u2.1 u1 u3 u2.2 g, rfl, rfl, by rw [ht]; exact hP9, hD9⟩, hS.F ht⟩) hS.2.2 dX3_init_78
      · skip
        refine lv_aload_n hx hb dX3_init_59 rfl (lv_at hl 0 rfl) ?_
        refine va_get (D := D) (ci := 3) (v := .ref a1) (C := RX3) (T := TX3) (N := 5) hx hb hts hin3 hown hK hP 2 rfl rfl 3 (by decide) (hts (.fieldLink RX3 30 "ProofMarks" "slots" "[LProofMarks$Sheet;") (List.mem_of_getElem? (i := 16) rfl)) (fun _ h9 => h9) rfl dX3_init_60 ?_
        refine lv_iload_n hx hb dX3_init_63 rfl (lv_at hl 1 rfl) ?_
        refine va_new (ci := 2) (fs := [.null, .null, .null, .null, .null, .null, .null, .null, .null, .null, .null, .null, .int 0, .int 0, .int 0]) (C := RX2) (T := TX2) (N := 15) hx hb hts hin2 tyX2 tyX2_ok hown (hts (.classLink RX3 7 RX2) (List.mem_of_getElem? (i := 4) rfl)) (hts (.instantiable RX2 15) (List.mem_of_getElem? (i := 5) rfl)) (hts (.initialized RX2) (List.mem_of_getElem? (i := 6) rfl)) hK hP hD hS hA rfl pm_born2 (show 110 + 13 * i + 1 ≤ 136 by omega) (show 1821 + 215 * i + 15 ≤ 2251 by omega) dX3_init_64 (fun n11 H hP hD hS => ?_)
        refine lv_dup hx hb dX3_init_67 rfl ?_
        have hL := pm_last hP hD
        have hF := pm_hF hD hA hS.1
        refine va_callv (va_runI (As := []) (rest := [.ref n11, .int (nI i), .ref a1]) ⟨hx, hb, hml, hown, hts⟩ (k_X2_init l D y n11 H.size) (cwI 0 hts gX3_init_X2_init rfl rfl rfl (hts (.initialized RX2) (List.mem_of_getElem? (i := 6) rfl)) (hts (.methodLink RX3 9 yX2_init) (List.mem_of_getElem? (i := 19) rfl)) (hts (.instanceMethod yX2_init) (List.mem_of_getElem? (i := 20) rfl)) rfl hd_X2_init ⟨Nat.le_of_ble_eq_true rfl, Nat.le_of_ble_eq_true rfl⟩) ⟨pm_mkr_blind, pm_mkr_pre hL.1 hK hL.2⟩ rfl rfl hl.1 rfl (lv_room (Nat.le_of_ble_eq_true rfl)) dX3_init_68 ⟨show 110 + 13 * i + 1 + 12 ≤ 136 by omega, show 1821 + 215 * i + 15 + 200 ≤ 2251 by omega⟩) hS (fun q _ h => hF q h) hF (fun u9 t9 H1 locs ht9 _ h9 hB9 hz9 hk9 hS => ?_)
        obtain ⟨hP8, hD8⟩ := pm_joinN hP hD hk9 hF (by rw [← ht9]; exact hB9.1) hB9.2
        clear hP hD hL hF hB9 hk9 ht9
        obtain rfl : n11 = u9 0 := h9.symm
        have hP := hP8
        have hD := hD8
        clear hP8 hD8
        have hP : va_P D vwCl (pm_cmk y a0 a1 a2 u2.1 u1 u3 u2.2 g (pm_fi g i) i ++ pm_shS y u9 pm_S0) H1 := hP
        have hD : va_D A (pm_cmk y a0 a1 a2 u2.1 u1 u3 u2.2 g (pm_fi g i) i ++ pm_shS y u9 pm_S0) := hD
        generalize H1 = H at hP hS ⊢
        refine kx_astq (ws' := pm_cmk y a0 a1 a2 u2.1 u1 u3 u2.2 g (pm_fi (pm_bu g i u9) (i + 1)) i ++ pm_shS y u9 pm_S0) hx hb hK hP hD hS 0 3 rfl rfl (pm_app_sh _ y u9 pm_S0) (by omega) (by decide) (pm_bu_s g i u9) rfl dX3_init_71 (fun H locs hP hD hS => ?_)
        have eW := pm_shs_b y g (fun _ => pm_S0) i u9
        have hP : va_P D vwCl (pm_cmk y a0 a1 a2 u2.1 u1 u3 u2.2 (pm_bu g i u9) (pm_fi (pm_bu g i u9) (i + 1)) (i + 1)) H := by unfold pm_cmk at hP ⊢; rw [← eW]; simp only [List.append_assoc] at hP ⊢; exact hP
        have hD : va_D A (pm_cmk y a0 a1 a2 u2.1 u1 u3 u2.2 (pm_bu g i u9) (pm_fi (pm_bu g i u9) (i + 1)) (i + 1)) := by unfold pm_cmk at hD ⊢; rw [← eW]; simp only [List.append_assoc] at hD ⊢; exact hD
        refine W.widen (k := 110 + 13 * (i + 1)) (n := 1821 + 215 * (i + 1)) (by omega) (by omega) ?_
        refine kx_iinc (a := i) (lv' := [(1, .int (nI (i + 1))), (0, .ref a0)]) hx hb dX3_init_72 hl (k := 1) rfl (by decide) rfl (fun ls hl => ?_)
        refine lv_goto (tgt := 54) hx hb dX3_init_75 (by decide) ?_
        exact ih8 (i + 1) ls H locs (pm_bu g i u9) hP hD hS (by omega) (by omega) (by exact lv_sub hl [1, 0] rfl) 
  exact LOOP54 (2 + 1) 0 ls H locs (fun _ _ => 0) (by rw [pm_fi_0]; exact hP) (by rw [pm_fi_0]; exact hD) hS (by omega) (by omega) (lv_sub hl [1, 0] rfl) 

